-- the relation of the class's and the reference's memory
def eqF (n : Nat) (F G : Nat → Nat → Int32) : Prop := ∀ i, i < n → ∀ j, j < 7 → F i j = G i j
theorem eqF_lo {n m : Nat} {F G : Nat → Nat → Int32} (h : eqF n F G) (hm : m ≤ n) : eqF m F G := fun i hi => h i (by omega)
theorem pAns_c {n : Nat} {F G : Nat → Nat → Int32} (h : eqF n F G) {i k : Nat} (hi : i < n) (hk : k < n) : pAns (F i) (F k) = pAns (G i) (G k) :=
  pAns_congr (fun j hj => h i hi j (by omega)) (fun j hj => h k hk j (by omega))
theorem pSet_c {F G : Nat → Nat → Int32} : ∀ n, eqF n F G → pSet F n = pSet G n
  | 0, _ => rfl
  | n + 1, h => by
    simp only [pSet]; rw [h n (by omega) 6 (by decide), pSet_c n (eqF_lo h (by omega))]
theorem pAhead_c {F G : Nat → Nat → Int32} : ∀ n, eqF n F G → pAhead F n = pAhead G n
  | 0, _ => rfl
  | n + 1, h => by
    simp only [pAhead]; rw [h n (by omega) 6 (by decide), pAhead_c n (eqF_lo h (by omega))]
theorem pNx_c {n : Nat} {F G : Nat → Nat → Int32} (h : eqF n F G) : ∀ s k, k + s ≤ n → pNx F s k = pNx G s k
  | 0, _, _ => rfl
  | s + 1, k, hk => by
    simp only [pNx]; rw [h k (by omega) 6 (by decide), pNx_c h s (k + 1) (by omega)]
theorem pHeard_c {n : Nat} {F G : Nat → Nat → Int32} (h : eqF n F G) {i : Nat} (hi : i < n) : pHeard F n i = pHeard G n i := by
  unfold pHeard
  rw [pNx_c h _ _ (by omega)]
  split
  · rfl
  · rename_i k hk
    have := pNx_in G _ _ _ hk
    exact pAns_c h (by omega) hi
theorem pIsAns_c {F G : Nat → Nat → Int32} {i : Nat} (h : eqF (i + 1) F G) : pIsAns F i = pIsAns G i := by
  unfold pIsAns
  rw [h i (by omega) 6 (by decide), pAhead_c i (eqF_lo h (by omega))]
  split
  · split
    · rfl
    · rename_i a ha
      have := (pAhead_in G i a ha).1
      exact pAns_c h (by omega) (by omega)
  · rfl
theorem pLong_c {F G : Nat → Nat → Int32} : ∀ n, eqF n F G → pLong F n = pLong G n
  | 0, _ => rfl
  | n + 1, h => by
    simp only [pLong]; rw [h n (by omega) 6 (by decide), pIsAns_c h, pLong_c n (eqF_lo h (by omega))]
theorem pCnt_c {F G : Nat → Nat → Int32} : ∀ n, eqF n F G → pCnt F n = pCnt G n
  | 0, _ => rfl
  | n + 1, h => by
    simp only [pCnt]; rw [pIsAns_c h, pCnt_c n (eqF_lo h (by omega))]
theorem pDepth_c {a b : Nat → Int32} (h : ∀ j, j < 7 → a j = b j) : pDepth a = pDepth b := by
  unfold pDepth
  rw [h 0 (by decide), h 1 (by decide), h 2 (by decide), h 3 (by decide)]
theorem pMean_c {F G : Nat → Nat → Int32} (m : Nat) {p q : Nat → Int32} (w : Int32) (hg : ∀ a b c, pGive 1 m p a b c = pGive 1 m q a b c) : ∀ n, eqF n F G → pMean F m p w n = pMean G m q w n
  | 0, _ => rfl
  | n + 1, h => by
    simp only [pMean]
    rw [pMean_c m w hg n (eqF_lo h (by omega)), pIsAns_c h, h n (by omega) 4 (by decide), h n (by omega) 2 (by decide), h n (by omega) 3 (by decide), pDepth_c (h n (by omega)), hg]
theorem isTk_c {F G : Nat → Nat → Int32} (m : Nat) : ∀ n, eqF n F G → isTk F m n = isTk G m n
  | 0, _ => rfl
  | n + 1, h => by
    have ih := isTk_c m n (eqF_lo h (by omega))
    simp only [isTk]
    rw [ih]
    split
    · rfl
    · rename_i q hq
      split
      · split
        · rfl
        · rename_i a
          have := isTk_lt G m n a hq
          rw [pAns_c h (show n < n + 1 by omega) (show a < n + 1 by omega)]
      · rfl
theorem tlS_c {F G : Nat → Nat → Int32} {C D : Nat → Int32} {z : Nat} (hc : ∀ k, k < z → C k = D k) : ∀ n, eqF n F G → tlS C z F n = tlS D z G n
  | 0, _ => rfl
  | n + 1, h => by
    simp only [tlS]
    rw [tlS_c hc n (eqF_lo h (by omega)), h n (by omega) 6 (by decide), h n (by omega) 2 (by decide)]
    split
    · split
      · rfl
      · rename_i c hq
        by_cases hz : c < z
        · rw [hc c hz]
        · rw [if_neg (fun q => hz q.1), if_neg (fun q => hz q.1)]
    · rfl
theorem fwB_c {A : Nat} {P Q : Nat → Bool} (h : ∀ m, P m = Q m) (j b : Nat) : fwB A P j b = fwB A Q j b := by
  rw [show P = Q from funext h]
-- what is worked out of a law depends on its parts alone
theorem sA_cg {p q v f : Nat → Int32} : ∀ n, (∀ k, k < n → p k = q k) → sA p v f n = sA q v f n
  | 0, _ => rfl
  | n + 1, h => by
    simp only [sA]
    rw [h n (by omega), hgt_cg n (fun k hk => h k (by omega)), sA_cg n (fun k hk => h k (by omega))]
theorem pGive_cg {u n : Nat} {p q : Nat → Int32} (h : ∀ k, k < n → p k = q k) (a b c : Int32) : pGive u n p a b c = pGive u n q a b c := by
  unfold pGive pVal
  rw [sA_cg n h]
-- furrows
def frOk (f : Nat → Int32) : Prop := kind7 (f 0) ∧ (∃ L, L < 12 ∧ f 2 = nI (L + 1)) ∧ (∃ C, C < 6 ∧ f 3 = nI C) ∧ (∃ a, a ≤ 99 ∧ f 5 = nI a) ∧ (f 6 = 0 ∨ f 6 = 1)
theorem frOk_cg {f g : Nat → Int32} (h : ∀ j, j < 7 → g j = f j) (hf : frOk f) : frOk g := by
  unfold frOk at hf ⊢
  rw [h 0 (by decide), h 2 (by decide), h 3 (by decide), h 5 (by decide), h 6 (by decide)]; exact hf
def Fr (w : Nat) (M : Mem) (n : Nat) : Prop := M (37 + w) 1 = nI n ∧ M (92 + w) 2 = nI n ∧ n ≤ 12 ∧ ∀ i, i < n → (∀ j, j < 7 → M (12 * w + i) j = M (92 + w) (6 + 7 * i + j)) ∧ frOk (M (12 * w + i))
def Sr (w : Nat) (M : Mem) : Prop := ∃ y p, M (37 + w) 2 = nI y ∧ M (92 + w) 0 = nI y ∧ y ≤ 9999 ∧ M (37 + w) 3 = nI p ∧ M (92 + w) 3 = nI p ∧ 1 ≤ p ∧ p ≤ 20 ∧ M (37 + w) 4 = M (92 + w) 1
def Tr (w : Nat) (M : Mem) : Prop := ∃ z, M (43 + w) 3 = nI z ∧ M (92 + w) 4 = nI z ∧ z ≤ 60 ∧ ∀ i, i < z → tOk (M (62 + w) i) (M (92 + w) (90 + i))
def Wr (w : Nat) (M : Mem) : Prop := ∃ u, M (43 + w) 5 = nI u ∧ M (92 + w) 5 = nI u ∧ u ≤ 24 ∧ ∀ i, i < u → M (65 + w) i = M (92 + w) (150 + i)
def Lr (w : Nat) (M : Mem) (u : Nat) : Prop := ∃ m, M (47 + 2 * w + u) 1 = nI m ∧ M (92 + w) (174 + 121 * u) = nI m ∧ m ≤ 60 ∧ (0 < m → WF m (M (52 + 2 * w + u))) ∧ ∀ k, k < m → actOk (M (92 + w) (174 + 121 * u + 1 + k)) (M (92 + w) (174 + 121 * u + 61 + k)) (M (52 + 2 * w + u) k)
def World (w : Nat) (M : Mem) : Prop := (∃ n, Fr w M n) ∧ Sr w M ∧ Tr w M ∧ Wr w M ∧ Lr w M 0 ∧ Lr w M 1
def Er (M : Mem) : Prop := ∀ k, 1 ≤ k → k ≤ 6 → M 89 k = M 95 k
def Sh (M : Mem) (s : Nat) : Prop := M (81 + s) 1 = M 96 s ∧ (M 96 s = 0 ∨ M 96 s = 8 ∨ M 96 s = 16 ∨ M 96 s = 32) ∧ ∃ z, M (81 + s) 2 = nI z ∧ M 97 s = nI z ∧ z ≤ 24 ∧ ∀ k, k < 24 → M (85 + s) k = M 98 (24 * s + k)
def Tc (M : Mem) : Prop := ∃ t, M 78 1 = nI t ∧ M 91 19 = nI t ∧ t ≤ 30 ∧ ∀ k, k < t → M 79 k = M 104 k
def Rel (M : Mem) : Prop := World 0 M ∧ M 90 2 = M 91 3 ∧ (¬ M 91 3 = 0 → World 1 M) ∧ Er M ∧ (∀ s, s < 4 → Sh M s) ∧ Tc M
-- cells
def cFr (w n a k : Nat) : Prop := (12 * w ≤ a ∧ a < 12 * w + n ∧ k < 7) ∨ (a = 37 + w ∧ k = 1) ∨ (a = 92 + w ∧ (k = 2 ∨ (6 ≤ k ∧ k < 6 + 7 * n)))
def cSr (w a k : Nat) : Prop := (a = 37 + w ∧ (k = 2 ∨ k = 3 ∨ k = 4)) ∨ (a = 92 + w ∧ (k = 0 ∨ k = 1 ∨ k = 3))
def cTr (w a k : Nat) : Prop := (a = 43 + w ∧ k = 3) ∨ (a = 62 + w ∧ k < 60) ∨ (a = 92 + w ∧ (k = 4 ∨ (90 ≤ k ∧ k < 150)))
def cWr (w a k : Nat) : Prop := (a = 43 + w ∧ k = 5) ∨ (a = 65 + w ∧ k < 24) ∨ (a = 92 + w ∧ (k = 5 ∨ (150 ≤ k ∧ k < 174)))
def cLr (w u a k : Nat) : Prop := (a = 47 + 2 * w + u ∧ k = 1) ∨ (a = 52 + 2 * w + u ∧ k < 60) ∨ (a = 92 + w ∧ 174 + 121 * u ≤ k ∧ k < 295 + 121 * u)
def cEr (a k : Nat) : Prop := (a = 89 ∨ a = 95) ∧ 1 ≤ k ∧ k ≤ 6
def cSh (s a k : Nat) : Prop := (a = 81 + s ∧ (k = 1 ∨ k = 2)) ∨ (a = 85 + s ∧ k < 24) ∨ ((a = 96 ∨ a = 97) ∧ k = s) ∨ (a = 98 ∧ 24 * s ≤ k ∧ k < 24 * s + 24)
def cTc (a k : Nat) : Prop := (a = 78 ∧ k = 1) ∨ (a = 79 ∧ k < 30) ∨ (a = 91 ∧ k = 19) ∨ (a = 104 ∧ k < 30)
theorem Fr_cg {w n : Nat} {M M1 : Mem} (h : Fr w M n) (hc : ∀ a k, cFr w n a k → M1 a k = M a k) : Fr w M1 n := by
  obtain ⟨a1, a2, a3, a4⟩ := h
  have e : ∀ i, i < n → ∀ j, j < 7 → M1 (12 * w + i) j = M (12 * w + i) j := fun i hi j hj => hc _ _ (by unfold cFr; omega)
  refine ⟨(hc _ _ (by unfold cFr; omega)).trans a1, (hc _ _ (by unfold cFr; omega)).trans a2, a3, fun i hi => ⟨fun j hj => ?_, frOk_cg (e i hi) (a4 i hi).2⟩⟩
  rw [e i hi j hj, hc (92 + w) (6 + 7 * i + j) (by unfold cFr; omega)]; exact (a4 i hi).1 j hj
theorem Sr_cg {w : Nat} {M M1 : Mem} (h : Sr w M) (hc : ∀ a k, cSr w a k → M1 a k = M a k) : Sr w M1 := by
  obtain ⟨y, p, a1, a2, a3, a4, a5, a6, a7, a8⟩ := h
  refine ⟨y, p, (hc _ _ (by unfold cSr; omega)).trans a1, (hc _ _ (by unfold cSr; omega)).trans a2, a3, (hc _ _ (by unfold cSr; omega)).trans a4, (hc _ _ (by unfold cSr; omega)).trans a5, a6, a7, ?_⟩
  rw [hc (37 + w) 4 (by unfold cSr; omega), hc (92 + w) 1 (by unfold cSr; omega)]; exact a8
theorem Tr_cg {w : Nat} {M M1 : Mem} (h : Tr w M) (hc : ∀ a k, cTr w a k → M1 a k = M a k) : Tr w M1 := by
  obtain ⟨z, a1, a2, a3, a4⟩ := h
  refine ⟨z, (hc _ _ (by unfold cTr; omega)).trans a1, (hc _ _ (by unfold cTr; omega)).trans a2, a3, fun i hi => ?_⟩
  rw [hc (62 + w) i (by unfold cTr; omega), hc (92 + w) (90 + i) (by unfold cTr; omega)]; exact a4 i hi
theorem Wr_cg {w : Nat} {M M1 : Mem} (h : Wr w M) (hc : ∀ a k, cWr w a k → M1 a k = M a k) : Wr w M1 := by
  obtain ⟨z, a1, a2, a3, a4⟩ := h
  refine ⟨z, (hc _ _ (by unfold cWr; omega)).trans a1, (hc _ _ (by unfold cWr; omega)).trans a2, a3, fun i hi => ?_⟩
  rw [hc (65 + w) i (by unfold cWr; omega), hc (92 + w) (150 + i) (by unfold cWr; omega)]; exact a4 i hi
theorem Lr_cg {w u : Nat} {M M1 : Mem} (h : Lr w M u) (hc : ∀ a k, cLr w u a k → M1 a k = M a k) : Lr w M1 u := by
  obtain ⟨m, a1, a2, a3, a4, a5⟩ := h
  have e : ∀ k, k < m → M (52 + 2 * w + u) k = M1 (52 + 2 * w + u) k := fun k hk => (hc _ _ (by unfold cLr; omega)).symm
  refine ⟨m, (hc _ _ (by unfold cLr; omega)).trans a1, (hc _ _ (by unfold cLr; omega)).trans a2, a3, fun h0 => WF_cg e (a4 h0), fun k hk => ?_⟩
  rw [← e k hk, hc (92 + w) (174 + 121 * u + 1 + k) (by unfold cLr; omega), hc (92 + w) (174 + 121 * u + 61 + k) (by unfold cLr; omega)]; exact a5 k hk
theorem Er_cg {M M1 : Mem} (h : Er M) (hc : ∀ a k, cEr a k → M1 a k = M a k) : Er M1 := fun k h1 h2 => by
  rw [hc 89 k (by unfold cEr; omega), hc 95 k (by unfold cEr; omega)]; exact h k h1 h2
theorem Sh_cg {s : Nat} {M M1 : Mem} (h : Sh M s) (hc : ∀ a k, cSh s a k → M1 a k = M a k) : Sh M1 s := by
  obtain ⟨a1, a2, z, a3, a4, a5, a6⟩ := h
  have e := hc 96 s (by unfold cSh; omega)
  refine ⟨by rw [e, hc (81 + s) 1 (by unfold cSh; omega)]; exact a1, by rw [e]; exact a2, z, (hc _ _ (by unfold cSh; omega)).trans a3, (hc _ _ (by unfold cSh; omega)).trans a4, a5, fun k hk => ?_⟩
  rw [hc (85 + s) k (by unfold cSh; omega), hc 98 (24 * s + k) (by unfold cSh; omega)]; exact a6 k hk
theorem Tc_cg {M M1 : Mem} (h : Tc M) (hc : ∀ a k, cTc a k → M1 a k = M a k) : Tc M1 := by
  obtain ⟨t, a1, a2, a3, a4⟩ := h
  refine ⟨t, (hc _ _ (by unfold cTc; omega)).trans a1, (hc _ _ (by unfold cTc; omega)).trans a2, a3, fun k hk => ?_⟩
  rw [hc 79 k (by unfold cTc; omega), hc 104 k (by unfold cTc; omega)]; exact a4 k hk
def cWo (w a k : Nat) : Prop := (12 * w ≤ a ∧ a < 12 * w + 12) ∨ a = 37 + w ∨ a = 43 + w ∨ ((a = 47 + 2 * w ∨ a = 48 + 2 * w) ∧ k = 1) ∨ a = 52 + 2 * w ∨ a = 53 + 2 * w ∨ a = 62 + w ∨ a = 65 + w ∨ a = 92 + w
theorem World_cg {w : Nat} {M M1 : Mem} (h : World w M) (hc : ∀ a k, cWo w a k → M1 a k = M a k) : World w M1 := by
  obtain ⟨⟨n, h1⟩, h2, h3, h4, h5, h6⟩ := h
  have hn := h1.2.2.1
  exact ⟨⟨n, Fr_cg h1 fun a k q => hc a k (by unfold cFr at q; unfold cWo; omega)⟩, Sr_cg h2 fun a k q => hc a k (by unfold cSr at q; unfold cWo; omega), Tr_cg h3 fun a k q => hc a k (by unfold cTr at q; unfold cWo; omega), Wr_cg h4 fun a k q => hc a k (by unfold cWr at q; unfold cWo; omega), Lr_cg h5 fun a k q => hc a k (by unfold cLr at q; unfold cWo; omega), Lr_cg h6 fun a k q => hc a k (by unfold cLr at q; unfold cWo; omega)⟩
-- both programs at one call
theorem ctrI_dep {l : Launch} {g : GT} {y : MethodName} {cc : ByteArray} {nL d e : Nat} {ret : Option FieldType} {av : List Value} {M : Mem} {post : Int32 → Mem → Prop} (h : CtrI l g y cc nL ret d av M post) (hd : d ≤ e) : CtrI l g y cc nL ret e av M post := by
  unfold CtrI Met at h ⊢
  exact MetFree.respec h (fun _ _ q => q) (by show d + 1 ≤ e + 1; omega) (by show 48 * d + 48 ≤ 48 * e + 48; omega) (Nat.le_refl _) (Nat.le_refl _)
def Both (l : Launch) (g : GT) (y9 : MethodName) (b9 : ByteArray) (n9 : Nat) (y10 : MethodName) (b10 : ByteArray) (n10 : Nat) (as : List Value) (M : Mem) : Prop :=
  CtrI l g y9 b9 n9 (some .int) 60 (.ref (ga g 90) :: as) M (fun r M1 => CtrI l g y10 b10 n10 (some .int) 60 (.ref (ga g 91) :: as) M1 (fun r2 M2 => r2 = r ∧ Rel M2))
section
variable {l : Launch} {g : GT} {y9 : MethodName} {b9 : ByteArray} {n9 k9 : Nat} {y10 : MethodName} {b10 : ByteArray} {n10 k10 : Nat} {as : List Value} {M : Mem}
theorem both_of {Q : Int32 → Mem → Prop} (h9 : CtrI l g y9 b9 n9 (some .int) k9 (.ref (ga g 90) :: as) M Q) (hk : k9 ≤ 60) (h10 : ∀ r M1, Q r M1 → ∃ (k10 : Nat) (Q2 : Int32 → Mem → Prop), k10 ≤ 60 ∧ CtrI l g y10 b10 n10 (some .int) k10 (.ref (ga g 91) :: as) M1 Q2 ∧ ∀ r2 M2, Q2 r2 M2 → r2 = r ∧ Rel M2) : Both l g y9 b9 n9 y10 b10 n10 as M :=
  ctrI_mono (ctrI_dep h9 hk) (fun r M1 hq => by
    obtain ⟨k10, Q2, h0, h1, h2⟩ := h10 r M1 hq
    exact ctrI_mono (ctrI_dep h1 h0) h2)
theorem both_EE {v v2 : Int32} {M1 M2 : Mem} (h9 : CtrE l g y9 b9 n9 (some .int) k9 (.ref (ga g 90) :: as) M v M1) (hk : k9 ≤ 60) (h10 : CtrE l g y10 b10 n10 (some .int) k10 (.ref (ga g 91) :: as) M1 v2 M2) (hk2 : k10 ≤ 60) (hv : v2 = v) (hR : Rel M2) : Both l g y9 b9 n9 y10 b10 n10 as M :=
  both_of h9 hk (fun r M1' hq => by
    obtain ⟨rfl, rfl⟩ := hq
    exact ⟨k10, _, hk2, h10, fun r2 M2' hq2 => by obtain ⟨rfl, rfl⟩ := hq2; exact ⟨hv, hR⟩⟩)
end
def eM (M : Mem) (k : Nat) : Mem := mu M 89 k (M 89 k + 1)
def eM2 (M : Mem) (k : Nat) : Mem := mu (eM M k) 95 k (eM M k 95 k + 1)
theorem eM2_o (M : Mem) (k : Nat) {a j : Nat} (h : ¬ ((a = 89 ∨ a = 95) ∧ j = k)) : eM2 M k a j = M a j := by
  unfold eM2 eM
  rw [mu_at, if_neg (fun q => h ⟨Or.inr q.1, q.2⟩), mu_at, if_neg (fun q => h ⟨Or.inl q.1, q.2⟩)]
theorem Rel_err {M : Mem} {k : Nat} (h1 : 1 ≤ k) (h6 : k ≤ 6) (hR : Rel M) : Rel (eM2 M k) := by
  obtain ⟨a1, a2, a3, a4, a5, a6⟩ := hR
  have e : ∀ a j, a ≠ 89 → a ≠ 95 → eM2 M k a j = M a j := fun a j q1 q2 => eM2_o M k (by omega)
  refine ⟨World_cg a1 fun a j q => e a j (by unfold cWo at q; omega) (by unfold cWo at q; omega), by rw [e 90 2 (by decide) (by decide), e 91 3 (by decide) (by decide)]; exact a2, fun h => World_cg (a3 (by rw [e 91 3 (by decide) (by decide)] at h; exact h)) fun a j q => e a j (by unfold cWo at q; omega) (by unfold cWo at q; omega), fun j j1 j2 => ?_, fun s hs => Sh_cg (a5 s hs) fun a j q => e a j (by unfold cSh at q; omega) (by unfold cSh at q; omega), Tc_cg a6 fun a j q => e a j (by unfold cTc at q; omega) (by unfold cTc at q; omega)⟩
  by_cases q : j = k
  · subst q
    show mu (mu M 89 j (M 89 j + 1)) 95 j (mu M 89 j (M 89 j + 1) 95 j + 1) 89 j = mu (mu M 89 j (M 89 j + 1)) 95 j (mu M 89 j (M 89 j + 1) 95 j + 1) 95 j
    rw [mu_s, mu_n _ _ _ (show (89 : Nat) ≠ 95 by decide), mu_s, mu_n _ _ _ (show (95 : Nat) ≠ 89 by decide), a4 j j1 j2]
  · rw [eM2_o M k (by omega), eM2_o M k (by omega)]; exact a4 j j1 j2
theorem both_err {l : Launch} {g : GT} {y9 : MethodName} {b9 : ByteArray} {n9 k9 : Nat} {y10 : MethodName} {b10 : ByteArray} {n10 k10 : Nat} {as : List Value} {M : Mem} {k : Nat} {e : Int32} (hR : Rel M) (h9 : CtrE l g y9 b9 n9 (some .int) k9 (.ref (ga g 90) :: as) M e (mu M 89 k (M 89 k + 1))) (hk : k9 ≤ 60) (h10 : ∀ M1 : Mem, (∀ a, a ≠ 89 → M1 a = M a) → CtrE l g y10 b10 n10 (some .int) k10 (.ref (ga g 91) :: as) M1 e (mu M1 95 k (M1 95 k + 1))) (hk2 : k10 ≤ 60) (h1 : 1 ≤ k) (h6 : k ≤ 6) : Both l g y9 b9 n9 y10 b10 n10 as M :=
  both_EE h9 hk (h10 _ (fun a ha => by rw [mu_n _ _ _ ha])) hk2 rfl (Rel_err h1 h6 hR)
-- arguments
theorem in_le {a b : Nat} {x : Int32} (hb : b < 2 ^ 31) (ha : a < 2 ^ 31) (h : (decide (nI a ≤ x) && decide (x ≤ nI b)) = true) : ∃ k, a ≤ k ∧ k ≤ b ∧ x = nI k := by
  obtain ⟨h1, h2⟩ := Bool.and_eq_true_iff.mp h
  have h1 := of_decide_eq_true h1
  have h2 := of_decide_eq_true h2
  obtain ⟨k, hk, rfl⟩ := nI_of (x := x) (fun q => Int32.lt_irrefl (Int32.lt_of_le_of_lt (Int32.le_trans (Int32.not_lt.mp (nI_pos ha)) h1) q))
  exact ⟨k, (nI_leI ha hk).mp h1, (nI_leI hk hb).mp h2, rfl⟩
theorem in_lt {a b : Nat} {x : Int32} (hb : b < 2 ^ 31) (ha : a < 2 ^ 31) (h : (decide (nI a ≤ x) && decide (x < nI b)) = true) : ∃ k, a ≤ k ∧ k < b ∧ x = nI k := by
  obtain ⟨h1, h2⟩ := Bool.and_eq_true_iff.mp h
  have h1 := of_decide_eq_true h1
  have h2 := of_decide_eq_true h2
  obtain ⟨k, hk, rfl⟩ := nI_of (x := x) (fun q => Int32.lt_irrefl (Int32.lt_of_le_of_lt (Int32.le_trans (Int32.not_lt.mp (nI_pos ha)) h1) q))
  exact ⟨k, (nI_leI ha hk).mp h1, (nI_ltI hk hb).mp h2, rfl⟩
theorem lt_le (x : Int32) {b : Nat} (hb : b + 1 < 2 ^ 31) : decide (x < nI (b + 1)) = decide (x ≤ nI b) := by
  apply decide_eq_decide.mpr
  rw [Int32.lt_iff_toInt_lt, Int32.le_iff_toInt_le, nI_toInt hb, nI_toInt (by omega)]; omega
theorem lt2_le (x : Int32) : decide (x < 2) = decide (x ≤ 1) := lt_le x (b := 1) (by decide)
theorem lt4_le (x : Int32) : decide (x < 4) = decide (x ≤ 3) := lt_le x (b := 3) (by decide)
theorem lt6_le (x : Int32) : decide (x < 6) = decide (x ≤ 5) := lt_le x (b := 5) (by decide)
theorem lt7_le (x : Int32) : decide (x < 7) = decide (x ≤ 6) := lt_le x (b := 6) (by decide)
