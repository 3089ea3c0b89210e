-- the calls: loose years, words, texts
theorem pUs_nI (z : Int32) : ∃ u, u < 2 ^ 24 ∧ pUs z = nI u := by
  have h : (pUs z).toBitVec.toNat = z.toBitVec.toNat / 2 ^ 8 := pk_ushr z 8 8 (by decide)
  have hz : z.toBitVec.toNat < 2 ^ 32 := z.toBitVec.isLt
  have hu : z.toBitVec.toNat / 2 ^ 8 < 2 ^ 24 := by omega
  refine ⟨z.toBitVec.toNat / 2 ^ 8, hu, ?_⟩
  apply Int32.toBitVec_inj.mp
  apply BitVec.eq_of_toNat_eq
  rw [h, pk_tn (by omega)]
theorem pRem_nI {u d : Nat} (hu : u < 2 ^ 24) (h0 : 0 < d) (hd : d < 2 ^ 31) {y : Int32} (hy : y = nI d) : pRem (nI u) y = nI (u % d) := by
  subst hy; exact pk_rem (by omega) h0 hd
theorem draw_same (z : Int32) : ∃ K Ln H, K < 7 ∧ Ln < 72 ∧ H < 6 ∧ pRem (pUs (pNd z)) 7 = nI K ∧ pRem (pUs (pNd (pNd z))) 72 = nI Ln ∧ pRem (pUs (pNd (pNd (pNd z)))) 6 = nI H := by
  obtain ⟨a, ha, ea⟩ := pUs_nI (pNd z)
  obtain ⟨b, hb, eb⟩ := pUs_nI (pNd (pNd z))
  obtain ⟨c, hc, ec⟩ := pUs_nI (pNd (pNd (pNd z)))
  rw [ea, eb, ec]
  exact ⟨a % 7, b % 72, c % 6, Nat.mod_lt _ (by decide), Nat.mod_lt _ (by decide), Nat.mod_lt _ (by decide), pRem_nI ha (by decide) (by decide) rfl, pRem_nI hb (by decide) (by decide) rfl, pRem_nI hc (by decide) (by decide) rfl⟩
theorem line_same : ∀ L, L < 72 → (pLine (pLineAt (nI L)) = true ∧ pLineAt (nI L) / 10 = 1 + nI L / 6 ∧ pLineAt (nI L) - pLineAt (nI L) / 10 * 10 = pRem (nI L) 6) := by decide +kernel
theorem km_ok : ∀ K, K < 7 → pKm (10 * nI K) = true := by decide +kernel
/-- both, as years go by -/
def Lq (X Y : Mem) (m y : Nat) (pat : Int32) : Prop := eqF m (fF X 0) (mF Y) ∧ (∀ i, i < m → frOk (fF X 0 i)) ∧ m ≤ 12 ∧ X 37 1 = nI m ∧ Y 92 2 = nI m ∧ X 37 2 = nI y ∧ Y 92 0 = nI y ∧ X 37 3 = pat ∧ Y 92 3 = pat ∧ X 37 4 = Y 92 1
theorem Lq_year {X Y : Mem} {m y : Nat} {pat : Int32} (h : Lq X Y m y pat) : Lq (pYM X 0 m pat) (gF Y m pat) m (y + 1) pat := by
  obtain ⟨a1, a2, a3, a4, a5, a6, a7, a8, a9, a10⟩ := h
  obtain ⟨c, d⟩ := yr_same (pat := pat) a1 a2
  have e : ∀ i, i < m → fF (pYM X 0 m pat) 0 i = pYR (fF X 0) m pat i := fun i hi => fF_YM (by decide) _ _ _ (by omega)
  have f37 : ∀ q, q ≠ 2 → pYM X 0 m pat 37 q = X 37 q := fun q h => pYM_at (fi := 0) (by decide) X m pat q h
  refine ⟨fun i hi j hj => ?_, fun i hi => ?_, a3, ?_, ?_, ?_, ?_, ?_, ?_, ?_⟩
  · rw [e i hi, gF_in hi hj]; exact c i hi j hj
  · rw [e i hi]; exact d i hi
  · rw [f37 1 (by decide)]; exact a4
  · rw [gF_at (by omega) (by decide)]; exact a5
  · have h2 : pYM X 0 m pat 37 2 = X 37 2 + 1 := pYM_2 X 0 m (by decide) pat
    rw [h2, a6]; exact nI_1 y
  · rw [gF_0, a7]; exact nI_1 y
  · rw [f37 3 (by decide)]; exact a8
  · rw [gF_at (by omega) (by decide)]; exact a9
  · rw [f37 4 (by decide), gF_at (by omega) (by decide)]; exact a10
theorem Lq_draw {X Y : Mem} {m y : Nat} {pat : Int32} (h : Lq X Y m y pat) (hm : m < 12) : Lq (pDraws X 0 m) (pDm Y m) (m + 1) y pat := by
  obtain ⟨a1, a2, a3, a4, a5, a6, a7, a8, a9, a10⟩ := h
  obtain ⟨K, Ln, H, hK, hL, hH, d1, d2, d3⟩ := draw_same (X 37 4)
  obtain ⟨l0, l1, l2⟩ := line_same Ln hL
  have e1 : pDraws X 0 m = pAdd (mu (mu (mu X 37 4 (pNd (X 37 4))) 37 4 (pNd (pNd (X 37 4)))) 37 4 (pNd (pNd (pNd (X 37 4))))) 0 m (10 * pRem (pUs (pNd (X 37 4))) 7) (pLineAt (pRem (pUs (pNd (pNd (X 37 4)))) 72)) (pRem (pUs (pNd (pNd (pNd (X 37 4))))) 6) := rfl
  have e2 : pDm Y m = pCome (mu (mu (mu Y 92 1 (pNd (Y 92 1))) 92 1 (pNd (pNd (Y 92 1)))) 92 1 (pNd (pNd (pNd (Y 92 1))))) m (10 * pRem (pUs (pNd (Y 92 1))) 7) (1 + pRem (pUs (pNd (pNd (Y 92 1)))) 72 / 6) (pRem (pRem (pUs (pNd (pNd (Y 92 1)))) 72) 6) (pRem (pUs (pNd (pNd (pNd (Y 92 1))))) 6) := rfl
  rw [← a10, d1, d2, d3, ← l2, ← l1] at e2
  rw [d1, d2, d3] at e1
  have x1 : ∀ a k, ¬ (a = 37 ∧ k = 4) → mu (mu (mu X 37 4 (pNd (X 37 4))) 37 4 (pNd (pNd (X 37 4)))) 37 4 (pNd (pNd (pNd (X 37 4)))) a k = X a k := fun a k h => by
    rw [mu_at, if_neg h, mu_at, if_neg h, mu_at, if_neg h]
  have x2 : mu (mu (mu X 37 4 (pNd (X 37 4))) 37 4 (pNd (pNd (X 37 4)))) 37 4 (pNd (pNd (pNd (X 37 4)))) 37 4 = pNd (pNd (pNd (X 37 4))) := mu_s _ _ _ _
  have y1 : ∀ k, k ≠ 1 → mu (mu (mu Y 92 1 (pNd (X 37 4))) 92 1 (pNd (pNd (X 37 4)))) 92 1 (pNd (pNd (pNd (X 37 4)))) 92 k = Y 92 k := fun k h => by
    rw [mu_o _ _ _ h, mu_o _ _ _ h, mu_o _ _ _ h]
  have y2 : mu (mu (mu Y 92 1 (pNd (X 37 4))) 92 1 (pNd (pNd (X 37 4)))) 92 1 (pNd (pNd (pNd (X 37 4)))) 92 1 = pNd (pNd (pNd (X 37 4))) := mu_s _ _ _ _
  rw [e1, e2]
  generalize mu (mu (mu X 37 4 (pNd (X 37 4))) 37 4 (pNd (pNd (X 37 4)))) 37 4 (pNd (pNd (pNd (X 37 4)))) = X1 at x1 x2 ⊢
  generalize mu (mu (mu Y 92 1 (pNd (X 37 4))) 92 1 (pNd (pNd (X 37 4)))) 92 1 (pNd (pNd (pNd (X 37 4)))) = Y1 at y1 y2 ⊢
  generalize hlc : pLineAt (nI Ln) = lc at l0 ⊢
  generalize hkm : 10 * nI K = km
  have k0 : pKm km = true := by rw [← hkm]; exact km_ok K hK
  have A : ∀ a k, a ≠ m → ¬ (a = 37 ∧ (k = 1 ∨ k = 4)) → pAdd X1 0 m km lc (nI H) a k = X a k := fun a k q1 q2 => by
    rw [pAdd_o _ _ _ _ _ q1 (by omega), x1 a k (by omega)]
  have B : ∀ q, q ≠ 1 → q ≠ 2 → ¬ (6 + 7 * m ≤ q ∧ q < 6 + 7 * m + 7) → pCome Y1 m km (lc / 10) (lc - lc / 10 * 10) (nI H) 92 q = Y 92 q := fun q q0 q1 q2 => by
    rw [pCome_o _ _ _ _ _ _ q1 q2, y1 q q0]
  have C : ∀ j, j < 7 → fF (pAdd X1 0 m km lc (nI H)) 0 m j = fcl km lc (nI H) j := fun j hj => by
    rw [fF0]; exact pAdd_at X1 m hm km lc (nI H) j hj
  have D : ∀ i, i ≠ m → i < 37 → ∀ j, fF (pAdd X1 0 m km lc (nI H)) 0 i j = fF X 0 i j := fun i h1 h2 j => by
    rw [fF0, fF0]; exact A i j h1 (by omega)
  refine ⟨fun i hi j hj => ?_, fun i hi => ?_, by omega, ?_, pCome_2 _ _ _ _ _ _, ?_, ?_, ?_, ?_, ?_⟩
  · by_cases e : i = m
    · subst e; rw [C j hj]; exact (pCome_at Y1 i km lc (nI H) j hj).symm
    · rw [D i e (by omega) j]
      have hB : mF (pCome Y1 m km (lc / 10) (lc - lc / 10 * 10) (nI H)) i j = mF Y i j := B (6 + 7 * i + j) (by omega) (by omega) (by omega)
      rw [hB]; exact a1 i (by omega) j hj
  · by_cases e : i = m
    · subst e; exact frOk_cg C (fcl_ok k0 l0)
    · exact frOk_cg (fun j _ => D i e (by omega) j) (a2 i (by omega))
  · unfold pAdd; exact mu_s _ _ _ _
  · rw [A 37 2 (by omega) (by omega)]; exact a6
  · rw [B 0 (by omega) (by omega) (by omega)]; exact a7
  · rw [A 37 3 (by omega) (by omega)]; exact a8
  · rw [B 3 (by omega) (by omega) (by omega)]; exact a9
  · rw [pAdd_o _ _ _ _ _ (by omega) (by omega), x2, pCome_o _ _ _ _ _ _ (by omega) (by omega), y2]
theorem Lq_ys {M N : Mem} {n y : Nat} {pat : Int32} (h : Lq M N n y pat) : ∀ k, (pLs M n k).2 = (pLm N n k).2 ∧ Lq (pLs M n k).1 (pLm N n k).1 (pLs M n k).2 (y + k) pat
  | 0 => ⟨rfl, h⟩
  | k + 1 => by
    obtain ⟨e, q⟩ := Lq_ys h k
    have q8 := q.2.2.2.2.2.2.2.1
    have q9 := q.2.2.2.2.2.2.2.2.1
    show (if (pLs M n k).2 < 12 then (pLs M n k).2 + 1 else (pLs M n k).2) = (pLm N n (k + 1)).2 ∧ Lq (pLoose (pLs M n k).1 0 (pLs M n k).2) (pLm N n (k + 1)).1 (if (pLs M n k).2 < 12 then (pLs M n k).2 + 1 else (pLs M n k).2) (y + (k + 1)) pat
    have q8' : (pLs M n k).1 (37 + 0) 3 = pat := q8
    by_cases c : (pLs M n k).2 < 12
    · rw [pLm_a (by rw [← e]; exact c), if_pos c, ← e]
      unfold pLoose
      rw [if_pos c, q8', q9]
      exact ⟨rfl, Lq_year (Lq_draw q c)⟩
    · rw [pLm_b (by rw [← e]; exact c), if_neg c, ← e]
      unfold pLoose
      rw [if_neg c, q8', q9]
      exact ⟨rfl, Lq_year q⟩
theorem pDraws_o (X : Mem) {m a : Nat} (h1 : a ≠ m) (h2 : a ≠ 37) : pDraws X 0 m a = X a := by
  unfold pDraws
  funext k
  show pAdd _ 0 m _ _ _ a k = X a k
  rw [pAdd_o _ _ _ _ _ h1 (fun q => h2 q.1), mu_n _ _ _ h2, mu_n _ _ _ h2, mu_n _ _ _ h2]
theorem pLs_o {M : Mem} {n a : Nat} (h12 : n ≤ 12) (hn : M 37 1 = nI n) (h1 : 12 ≤ a) (h2 : a ≠ 37) : ∀ k, (pLs M n k).1 a = M a
  | 0 => rfl
  | k + 1 => by
    have ok := pLs_ok hn h12 k
    show pLoose (pLs M n k).1 0 (pLs M n k).2 a = M a
    unfold pLoose
    by_cases c : (pLs M n k).2 < 12
    · rw [if_pos c, pYM_o _ _ _ (by omega) h2, pDraws_o _ (by omega) h2, pLs_o h12 hn h1 h2 k]
    · rw [if_neg c, pYM_o _ _ _ (by omega) h2, pLs_o h12 hn h1 h2 k]
theorem pDm_o (Y : Mem) {m a : Nat} (h : a ≠ 92) : pDm Y m a = Y a := by
  unfold pDm
  show pCome _ m _ _ _ _ a = Y a
  rw [pCome_n _ _ _ _ _ _ h, mu_n _ _ _ h, mu_n _ _ _ h, mu_n _ _ _ h]
theorem pDm_r (Y : Mem) {m q : Nat} (hm : m < 12) (h : 90 ≤ q ∨ q = 4 ∨ q = 5) : pDm Y m 92 q = Y 92 q := by
  unfold pDm
  show pCome _ m _ _ _ _ 92 q = Y 92 q
  rw [pCome_o _ _ _ _ _ _ (by omega) (by omega), mu_o _ _ _ (by omega), mu_o _ _ _ (by omega), mu_o _ _ _ (by omega)]
theorem pLm_o {N : Mem} {n a : Nat} (h : a ≠ 92) : ∀ k, (pLm N n k).1 a = N a
  | 0 => rfl
  | k + 1 => by
    by_cases c : (pLm N n k).2 < 12
    · rw [pLm_a c]
      show gF (pDm (pLm N n k).1 (pLm N n k).2) ((pLm N n k).2 + 1) ((pLm N n k).1 92 3) a = N a
      rw [gF_o h, pDm_o _ h, pLm_o h k]
    · rw [pLm_b c]
      show gF (pLm N n k).1 (pLm N n k).2 ((pLm N n k).1 92 3) a = N a
      rw [gF_o h, pLm_o h k]
theorem pLm_r {N : Mem} {n q : Nat} (hn : N 92 2 = nI n) (h12 : n ≤ 12) (h : 90 ≤ q ∨ q = 4 ∨ q = 5) : ∀ k, (pLm N n k).1 92 q = N 92 q
  | 0 => rfl
  | k + 1 => by
    have ok := pLm_ok hn h12 k
    by_cases c : (pLm N n k).2 < 12
    · rw [pLm_a c]
      show gF (pDm (pLm N n k).1 (pLm N n k).2) ((pLm N n k).2 + 1) ((pLm N n k).1 92 3) 92 q = N 92 q
      rw [gF_at (by omega) (by omega), pDm_r _ c h, pLm_r hn h12 h k]
    · rw [pLm_b c]
      show gF (pLm N n k).1 (pLm N n k).2 ((pLm N n k).1 92 3) 92 q = N 92 q
      rw [gF_at (by omega) (by omega), pLm_r hn h12 h k]
-- words
theorem byt_all : ∀ f : Fin (2 ^ 8), tOk (Int8.ofBitVec (BitVec.ofFin f)).toInt32 (Int32.ofBitVec ((BitVec.ofFin f).setWidth 32)) := by
  unfold tOk; decide +kernel
theorem byt_ok (e : Int8) : tOk e.toInt32 (Int32.ofBitVec (e.toBitVec.setWidth 32)) := byt_all e.toBitVec.toFin
theorem byt_s1 : ∀ i, i < 8 → (((nI (8 * i)).toInt64.toUInt64 &&& Int64.toUInt64 63).toBitVec % 64).toNat = 8 * i := by decide +kernel
theorem byt_s2 : ∀ i, i < 8 → (((nI (8 * i)).toInt64 &&& 63).toBitVec.smod 64).toNat = 8 * i := by decide +kernel
theorem byt_255 : ∀ j, j < 32 → (255#64).getLsbD j = decide (j < 8) := by decide +kernel
theorem byt_1 (v : Int64) {i : Nat} (hi : i < 8) {j : Nat} (hj : j < 8) : (((v.toUInt64 >>> ((nI (8 * i)).toInt64.toUInt64 &&& Int64.toUInt64 63)).toInt64).toInt32.toInt8).toBitVec.getLsbD j = v.toBitVec.getLsbD (8 * i + j) := by
  have key : ∀ (U : UInt64) (s : Nat), (U.toBitVec % 64).toNat = s → (v.toUInt64 >>> U).toInt64.toBitVec = v.toBitVec >>> s := fun U s h => by
    rw [← h]; exact UInt64.toBitVec_shiftRight _ _
  have e := key _ _ (byt_s1 i hi)
  show ((((v.toUInt64 >>> ((nI (8 * i)).toInt64.toUInt64 &&& Int64.toUInt64 63)).toInt64.toBitVec).signExtend 32).signExtend 8).getLsbD j = _
  rw [e, BitVec.getLsbD_signExtend, BitVec.getLsbD_signExtend, BitVec.getLsbD_ushiftRight]
  simp [hj, show j < 32 by omega, show j < 64 by omega]
theorem byt_2 (v : Int64) {i : Nat} (hi : i < 8) {j : Nat} (hj : j < 32) : (((v >>> ((nI (8 * i)).toInt64 &&& 63)) &&& 255).toInt32).toBitVec.getLsbD j = (decide (j < 8) && v.toBitVec.getLsbD (8 * i + j)) := by
  have h := byt_s2 i hi
  show (((v.toBitVec.sshiftRight' (((nI (8 * i)).toInt64 &&& 63).toBitVec.smod 64)) &&& 255#64).signExtend 32).getLsbD j = _
  rw [BitVec.getLsbD_signExtend, BitVec.getLsbD_and, BitVec.getLsbD_sshiftRight', h, byt_255 j hj]
  by_cases c : j < 8
  · have h3 : 8 * i + j < 64 := by omega
    simp [c, hj, h3, show j < 64 by omega]
  · simp [c, hj, show j < 64 by omega]
theorem byt_same (v : Int64) {i : Nat} (hi : i < 8) : tOk (vp_nar .byte (bytC v i)) ((v >>> ((nI (8 * i)).toInt64 &&& 63)) &&& 255).toInt32 := by
  have e1 : vp_nar .byte (bytC v i) = bytC v i := by unfold vp_nar bytC; rw [pk_nb]
  have e2 : ((v >>> ((nI (8 * i)).toInt64 &&& 63)) &&& 255).toInt32 = Int32.ofBitVec ((((v.toUInt64 >>> ((nI (8 * i)).toInt64.toUInt64 &&& Int64.toUInt64 63)).toInt64).toInt32.toInt8).toBitVec.setWidth 32) := by
    apply Int32.toBitVec_inj.mp
    apply BitVec.eq_of_getLsbD_eq_iff.mpr
    intro j hj
    rw [byt_2 v hi hj]
    show _ = ((((v.toUInt64 >>> ((nI (8 * i)).toInt64.toUInt64 &&& Int64.toUInt64 63)).toInt64).toInt32.toInt8).toBitVec.setWidth 32).getLsbD j
    rw [BitVec.getLsbD_setWidth, decide_eq_true hj, Bool.true_and]
    by_cases c : j < 8
    · rw [byt_1 v hi c, decide_eq_true c, Bool.true_and]
    · rw [decide_eq_false c, Bool.false_and]
      exact (BitVec.getLsbD_of_ge _ _ (by omega)).symm
  rw [e1, e2]; exact byt_ok _
theorem feedC_in (M : Mem) (z : Nat) (v : Int64) (q : Nat) : ∀ k, feedC M z v k 62 q = if z ≤ q ∧ q < z + k then vp_nar .byte (bytC v (q - z)) else M 62 q
  | 0 => by rw [if_neg (by omega)]; rfl
  | k + 1 => by
    simp only [feedC]
    by_cases e : q = z + k
    · subst e; rw [mu_s, if_pos (by omega), show z + k - z = k by omega]
    · rw [mu_o _ _ _ e, feedC_in M z v q k]
      by_cases c : z ≤ q ∧ q < z + k
      · rw [if_pos c, if_pos (by omega)]
      · rw [if_neg c, if_neg (by omega)]
theorem feedM_in (M : Mem) (z : Nat) (v : Int64) (q : Nat) (h4 : q ≠ 4) : ∀ k, feedM M z v k 92 q = if 90 + z ≤ q ∧ q < 90 + z + k then ((v >>> ((nI (8 * (q - 90 - z))).toInt64 &&& 63)) &&& 255).toInt32 else M 92 q
  | 0 => by rw [if_neg (by omega)]; rfl
  | k + 1 => by
    simp only [feedM]
    rw [mu_o _ _ _ h4]
    by_cases e : q = 90 + (z + k)
    · subst e; rw [mu_s, if_pos (by omega), show 90 + (z + k) - 90 - z = k by omega]
    · rw [mu_o _ _ _ e, feedM_in M z v q h4 k]
      by_cases c : 90 + z ≤ q ∧ q < 90 + z + k
      · rw [if_pos c, if_pos (by omega)]
      · rw [if_neg c, if_neg (by omega)]
theorem feedM_n (M : Mem) (z : Nat) (v : Int64) {a : Nat} (h : a ≠ 92) : ∀ k, feedM M z v k a = M a
  | 0 => rfl
  | k + 1 => by simp only [feedM]; rw [mu_n _ _ _ h, mu_n _ _ _ h, feedM_n M z v h k]
set_option maxRecDepth 20000 in
theorem r_loose (l : Launch) (g : GT) {M : Mem} (hR : Rel M) (w : Int32) : Both l g yX9_loose cX9_loose 3 yX10_loose cX10_loose 6 [.int w] M := by
  have hR0 := hR
  obtain ⟨⟨⟨n, hF⟩, hS, hT, hW, hL0, hL1⟩, hi, hK, hE, hs, hc⟩ := hR
  have hn : M 37 1 = nI n := hF.1
  have hm : M 92 2 = nI n := hF.2.1
  have h12 := hF.2.2.1
  by_cases hg : (decide (1 ≤ w) && decide (w ≤ 20)) = true
  · obtain ⟨t, h1, h2, rfl⟩ := in_le (a := 1) (b := 20) (by decide) (by decide) (show (decide (nI 1 ≤ w) && decide (w ≤ nI 20)) = true from hg)
    obtain ⟨y, p, a1, a2, a3, a4, a5, a6, a7, a8⟩ := hS
    have a1 : M 37 2 = nI y := a1
    have a2 : M 92 0 = nI y := a2
    have a4 : M 37 3 = nI p := a4
    have a5 : M 92 3 = nI p := a5
    have a8 : M 37 4 = M 92 1 := a8
    by_cases hy : y + t ≤ 9999
    · have O : ∀ a, 12 ≤ a → a ≠ 37 → (pLs M n t).1 a = M a := fun a q1 q2 => pLs_o h12 hn q1 q2 t
      have e92 : (pLs M n t).1 92 = M 92 := O 92 (by decide) (by decide)
      have h0 : Lq M (pLs M n t).1 n y (nI p) := ⟨by rw [mF_row e92]; exact Fr_eq hF, fun i hi => by rw [fF0]; exact (Fr_at hF hi).2, h12, hn, by rw [e92]; exact hm, a1, by rw [e92]; exact a2, a4, by rw [e92]; exact a5, by rw [e92]; exact a8⟩
      obtain ⟨k1, k2, k3, k4, k5, k6, k7, k8, k9, k10, k11⟩ := Lq_ys h0 t
      have hmN : (pLs M n t).1 92 2 = nI n := by rw [e92]; exact hm
      have Q : ∀ a, a ≠ 92 → (pLm (pLs M n t).1 n t).1 a = (pLs M n t).1 a := fun a h => pLm_o h t
      refine both_EE (qX9_loose_t l g M hn h12 h1 h2 a1 a3 hy) (by decide) (qX10_loose_t l g _ (n := n) hmN h12 h1 h2 (z := y) (by rw [e92]; exact a2) a3 hy) (by decide) ?_ (Rel_FS (n2 := (pLs M n t).2) hR0 (Fr_mk ?_ k6 k4 (fun i hi => ?_)) ⟨y + t, p, ?_, k8, hy, ?_, k10, a6, a7, ?_⟩ (fun a k _ q1 q2 q3 => ?_))
      · rw [← k1, pSet_c _ k2]
      · rw [Q 37 (by decide)]; exact k5
      · have eA : (pLm (pLs M n t).1 n t).1 i = fF (pLs M n t).1 0 i := by rw [Q i (by omega), fF0]
        rw [eA]; exact ⟨fun j hj => k2 i hi j hj, k3 i hi⟩
      · show (pLm (pLs M n t).1 n t).1 37 2 = _
        rw [Q 37 (by decide)]; exact k7
      · show (pLm (pLs M n t).1 n t).1 37 3 = _
        rw [Q 37 (by decide)]; exact k9
      · show (pLm (pLs M n t).1 n t).1 37 4 = (pLm (pLs M n t).1 n t).1 92 1
        rw [Q 37 (by decide)]; exact k11
      · by_cases e : a = 92
        · subst e; rw [pLm_r hmN h12 (by omega) t, e92]
        · rw [Q a e, O a (by omega) q2]
    · exact both_err hR0 (qX9_loose_full l g M hn h12 h1 h2 a1 a3 (by omega)) (by decide) (fun M1 h => qX10_loose_full l g M1 (by rw [h 92 (by decide)]; exact hm) h12 h1 h2 (z := y) (by rw [h 92 (by decide)]; exact a2) a3 (by omega)) (by decide) (by decide) (by decide)
  · exact both_err hR0 (qX9_loose_f l g M w (Bool.eq_false_iff.mpr hg)) (by decide) (fun M1 _ => qX10_loose_f l g M1 w (Bool.eq_false_iff.mpr hg)) (by decide) (by decide) (by decide)
set_option maxRecDepth 20000 in
theorem r_feed (l : Launch) (g : GT) {M : Mem} (hR : Rel M) (v : Int64) (w : Int32) : Both l g yX9_feed cX9_feed 5 yX10_feed cX10_feed 5 [.long v, .int w] M := by
  have hR0 := hR
  obtain ⟨⟨⟨n, hF⟩, hS, hT, hW, hL0, hL1⟩, hi, hK, hE, hs, hc⟩ := hR
  have hn : M 37 1 = nI n := hF.1
  have hm : M 92 2 = nI n := hF.2.1
  have h12 := hF.2.2.1
  obtain ⟨z, t1, t2, t3, t4⟩ := hT
  have t1 : M 43 3 = nI z := t1
  have t2 : M 92 4 = nI z := t2
  have t4 : ∀ i, i < z → tOk (M 62 i) (M 92 (90 + i)) := t4
  by_cases hg : (decide (1 ≤ w) && decide (w ≤ 8)) = true
  · obtain ⟨k, h1, h2, rfl⟩ := in_le (a := 1) (b := 8) (by decide) (by decide) (show (decide (nI 1 ≤ w) && decide (w ≤ nI 8)) = true from hg)
    by_cases h60 : z + k ≤ 60
    · have e92 : mu (feedC M z v k) 43 3 (nI (z + k)) 92 = M 92 := by rw [mu_n _ _ _ (by decide), feedC_n _ _ _ (by decide)]
      have O : ∀ a, a ≠ 62 → a ≠ 92 → a ≠ 43 → feedM (mu (feedC M z v k) 43 3 (nI (z + k))) z v k a = M a := fun a q1 q2 q3 => by
        rw [feedM_n _ _ _ q2, mu_n _ _ _ q3, feedC_n _ _ _ q1]
      have Q : ∀ q, q ≠ 4 → feedM (mu (feedC M z v k) 43 3 (nI (z + k))) z v k 92 q = if 90 + z ≤ q ∧ q < 90 + z + k then ((v >>> ((nI (8 * (q - 90 - z))).toInt64 &&& 63)) &&& 255).toInt32 else M 92 q := fun q h => by
        rw [feedM_in _ _ _ _ h, e92]
      refine both_EE (qX9_feed_t l g M v h1 h2 t1 t3 h60) (by decide) (qX10_feed_t l g _ v h1 h2 (z := z) (by rw [e92]; exact t2) t3 h60) (by decide) rfl (Rel_T hR0 ⟨z + k, ?_, ?_, h60, fun i hi => ?_⟩ (fun a q _ q1 q2 q3 => ?_))
      · show feedM (mu (feedC M z v k) 43 3 (nI (z + k))) z v k 43 3 = _
        rw [feedM_n _ _ _ (by decide)]; exact mu_s _ _ _ _
      · show feedM (mu (feedC M z v k) 43 3 (nI (z + k))) z v k 92 4 = _
        exact feedM_4 (by rw [e92]; exact t2) v k
      · show tOk (feedM (mu (feedC M z v k) 43 3 (nI (z + k))) z v k 62 i) (feedM (mu (feedC M z v k) 43 3 (nI (z + k))) z v k 92 (90 + i))
        rw [Q (90 + i) (by omega), feedM_n _ _ _ (show (62 : Nat) ≠ 92 by decide), mu_n _ _ _ (show (62 : Nat) ≠ 43 by decide), feedC_in]
        by_cases c : i < z
        · rw [if_neg (by omega), if_neg (by omega)]; exact t4 i c
        · rw [if_pos (by omega), if_pos (by omega), show 90 + i - 90 - z = i - z by omega]; exact byt_same v (by omega)
      · by_cases e : a = 92
        · subst e; rw [Q q (by omega), if_neg (by omega)]
        · by_cases e43 : a = 43
          · subst e43; rw [feedM_n _ _ _ (by decide), mu_o _ _ _ (by omega), feedC_n _ _ _ (by decide)]
          · rw [O a q2 e e43]
    · exact both_err hR0 (qX9_feed_full l g M v h1 h2 t1 t3 (by omega)) (by decide) (fun M1 h => qX10_feed_full l g M1 v h1 h2 (z := z) (by rw [h 92 (by decide)]; exact t2) t3 (by omega)) (by decide) (by decide) (by decide)
  · exact both_err hR0 (qX9_feed_f l g M v w (Bool.eq_false_iff.mpr hg)) (by decide) (fun M1 _ => qX10_feed_f l g M1 v w (Bool.eq_false_iff.mpr hg)) (by decide) (by decide) (by decide)
set_option maxRecDepth 20000 in
theorem r_text (l : Launch) (g : GT) {M : Mem} (hR : Rel M) (u : Int32) : Both l g yX9_text cX9_text 3 yX10_text cX10_text 4 [.int u] M := by
  have hR0 := hR
  obtain ⟨⟨⟨n, hF⟩, hS, hT, hW, hL0, hL1⟩, hi, hK, hE, hs, hc⟩ := hR
  have hn : M 37 1 = nI n := hF.1
  have hm : M 92 2 = nI n := hF.2.1
  have h12 := hF.2.2.1
  have e2 : (decide (0 ≤ u) && decide (u < 2)) = (decide (0 ≤ u) && decide (u ≤ 1)) := by rw [lt2_le]
  by_cases hg : (decide (0 ≤ u) && decide (u ≤ 1)) = true
  · obtain ⟨t, -, ht, rfl⟩ := in_le (a := 0) (b := 1) (by decide) (by decide) (show (decide (nI 0 ≤ u) && decide (u ≤ nI 1)) = true from hg)
    have ht2 : t < 2 := by omega
    have hLt : Lr 0 M t := by
      rcases (show t = 0 ∨ t = 1 by omega) with rfl | rfl
      · exact hL0
      · exact hL1
    obtain ⟨z, t1, t2, t3, t4⟩ := hT
    have t1 : M 43 3 = nI z := t1
    have t2 : M 92 4 = nI z := t2
    have t4 : ∀ i, i < z → tOk (M 62 i) (M 92 (90 + i)) := t4
    have eP : pParse (sgC (M 62) z) t (M 56) = pParse (smf (M 92) z) t (M 56) := pParse_jk (sg_jk t4) ht2 (M 56)
    have hok := pParse_ok (smf_end (M 92) z) ht2 (M 56)
    have hWF := pParse_WF (u := t) t3 (smf_end (M 92) z) ht2 (M 56)
    rw [← eP] at hok hWF
    generalize hPR : pParse (sgC (M 62) z) t (M 56) = R at eP hok hWF
    have c9b := qX9_text_bad l g M ht2 t1 t3
    have c9g := qX9_text_good l g M ht2 t1 t3
    rw [hPR] at c9b c9g
    have S0 : ∀ a, a ≠ 77 → a ≠ 56 → a ≠ 51 → rdM (rd0 M z t) R.2 a = M a := fun a h1 h2 h3 => by
      rw [rdM_o _ _ h1 h2 h3]; unfold rd0; rw [mu_n _ _ _ h1, mu_n _ _ _ h1, mu_n _ _ _ h1]
    generalize hS3 : mu (rdM (rd0 M z t) R.2) 43 3 0 = M3 at c9b c9g
    have S3 : ∀ a, a ≠ 77 → a ≠ 56 → a ≠ 51 → a ≠ 43 → M3 a = M a := fun a h1 h2 h3 h4 => by
      rw [← hS3, mu_n _ _ _ h4, S0 a h1 h2 h3]
    have S43 : ∀ k, M3 43 k = if k = 3 then 0 else M 43 k := fun k => by
      rw [← hS3]
      by_cases e : k = 3
      · subst e; rw [mu_s, if_pos rfl]
      · rw [mu_o _ _ _ e, if_neg e, S0 43 (by decide) (by decide) (by decide)]
    have S56 : M3 56 = R.2.2.2 := by
      rw [← hS3, mu_n _ _ _ (by decide)]; unfold rdM; rw [mu_n _ _ _ (by decide), mrow_s]
    clear hS3
    by_cases hb : (R.1 && decide (R.2.1 = z)) = true
    · have c9 := c9g hb hok.2
      rw [S56] at c9
      obtain ⟨g1, g2⟩ := Bool.and_eq_true_iff.mp hb
      have g2 := of_decide_eq_true g2
      generalize hM1 : mu (mrow M3 (52 + t) (va_cpy R.2.2.2 (M3 (52 + t)) 0 0 R.2.2.1)) (47 + t) 1 (nI R.2.2.1) = M1 at c9
      have O : ∀ a, a ≠ 52 + t → a ≠ 47 + t → M1 a = M3 a := fun a h1 h2 => by rw [← hM1, mu_n _ _ _ h2, mrow_n _ _ h1]
      have e92 : M1 92 = M 92 := by rw [O 92 (by omega) (by omega), S3 92 (by decide) (by decide) (by decide) (by decide)]
      have c10 := qX10_text_t l g M1 (u := t) (n := z) ht2 (by rw [e92]; exact t2) t3 (M 56) R (by rw [e92]; exact eP.symm)
      refine both_of c9 (by decide) (fun r M1' hq => ?_)
      obtain ⟨rfl, hMe⟩ := hq
      rw [hMe]
      refine ⟨_, _, ?_, c10, fun r2 M2 hq2 => ?_⟩
      · decide
      · obtain ⟨p1, p2, p3, p4⟩ := hq2
        rw [if_pos ⟨g1, by omega⟩] at p1
        obtain ⟨j1, j2, j3, j4⟩ := p1
        have P : ∀ a, a ≠ 91 → a ≠ 92 → a ≠ 99 → a ≠ 100 → M2 a = M1 a := p3
        have m47 : M2 (47 + t) 1 = nI R.2.2.1 := by rw [P _ (by omega) (by omega) (by omega) (by omega), ← hM1]; exact mu_s _ _ _ _
        have m52 : ∀ k, k < R.2.2.1 → M2 (52 + t) k = R.2.2.2 k := fun k hk => by
          rw [P _ (by omega) (by omega) (by omega) (by omega), ← hM1, mu_n _ _ _ (by omega), mrow_s]; exact sb_cpy0 hk
        have L47 : 47 + 2 * 0 + t = 47 + t := by omega
        have L52 : 52 + 2 * 0 + t = 52 + t := by omega
        refine ⟨j1, Rel_TL2 ht2 hR0 ⟨0, ?_, p2.trans nI_0.symm, by decide, fun i h => absurd h (Nat.not_lt_zero _)⟩ ⟨R.2.2.1, by rw [L47]; exact m47, j2, hok.2, fun h0 => ?_, fun k hk => ?_⟩ (fun a k q q1 q2 q3 => ?_)⟩
        · show M2 43 3 = nI 0
          rw [P 43 (by decide) (by decide) (by decide) (by decide), O 43 (by omega) (by omega), S43, if_pos rfl]; exact nI_0.symm
        · rw [L52]; exact WF_cg (fun k hk => (m52 k hk).symm) (hWF g1)
        · rw [L52, m52 k hk]; exact j3 k hk
        · unfold cLr at q3
          by_cases e : a = 92
          · subst e; rw [j4 k (by omega) (by omega), e92]
          · by_cases e91 : a = 91
            · subst e91; rw [p4 k (by unfold rS at q; omega), O 91 (by omega) (by omega), S3 91 (by decide) (by decide) (by decide) (by decide)]
            · unfold rS at q
              rw [P a e91 e (by omega) (by omega)]
              by_cases e47 : a = 47 + t
              · subst e47
                rw [← hM1, mu_o _ _ _ (by omega), mrow_n _ _ (by omega), S3 _ (by omega) (by omega) (by omega) (by omega)]
              · by_cases e52 : a = 52 + t
                · subst e52
                  rw [← hM1, mu_n _ _ _ (by omega), mrow_s]
                  by_cases e60 : k < 60
                  · exact absurd (Or.inr (Or.inl ⟨by omega, e60⟩)) q3
                  · rw [pk_cpy_out (by have := hok.2; omega), S3 _ (by omega) (by omega) (by omega) (by omega)]
                · rw [O a e52 e47]
                  by_cases e43 : a = 43
                  · subst e43; rw [S43, if_neg (by omega)]
                  · rw [S3 a (by omega) (by omega) (by omega) e43]
    · have hb := Bool.eq_false_iff.mpr hb
      have c9 := c9b hb
      have e92 : M3 92 = M 92 := S3 92 (by decide) (by decide) (by decide) (by decide)
      have c10 := qX10_text_t l g M3 (u := t) (n := z) ht2 (by rw [e92]; exact t2) t3 (M 56) R (by rw [e92]; exact eP.symm)
      refine both_of c9 (by decide) (fun r M1' hq => ?_)
      obtain ⟨rfl, rfl⟩ := hq
      refine ⟨_, _, ?_, c10, fun r2 M2 hq2 => ?_⟩
      · decide
      · obtain ⟨p1, p2, p3, p4⟩ := hq2
        rw [if_neg (fun q => by
          have h1 := hok.1
          rw [q.1, decide_eq_true (show R.2.1 = z by omega)] at hb; cases hb)] at p1
        refine ⟨p1.1, Rel_T hR0 ⟨0, ?_, p2.trans nI_0.symm, by decide, fun i h => absurd h (Nat.not_lt_zero _)⟩ (fun a k q q1 q2 q3 => ?_)⟩
        · show M2 43 3 = nI 0
          rw [p3 43 (by decide) (by decide) (by decide) (by decide), S43, if_pos rfl]; exact nI_0.symm
        · by_cases e : a = 92
          · subst e; rw [p1.2 k (by omega), e92]
          · by_cases e91 : a = 91
            · subst e91; rw [p4 k (by unfold rS at q; omega), S3 91 (by decide) (by decide) (by decide) (by decide)]
            · unfold rS at q
              rw [p3 a e91 e (by omega) (by omega)]
              by_cases e43 : a = 43
              · subst e43; rw [S43, if_neg (by omega)]
              · rw [S3 a (by omega) (by omega) (by omega) e43]
  · exact both_err hR0 (qX9_text_f l g M u (e2.trans (Bool.eq_false_iff.mpr hg))) (by decide) (fun M1 _ => qX10_text_f l g M1 u (Bool.eq_false_iff.mpr hg)) (by decide) (by decide) (by decide)
