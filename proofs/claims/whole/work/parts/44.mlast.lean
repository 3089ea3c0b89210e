-- the reference: a year as a function of the memory; sums, firsts
theorem ctrV_mono {l : Launch} {g : GT} {y : MethodName} {cc : ByteArray} {nL d : Nat} {av : List Value} {M : Mem} {post post' : Mem → Prop} (h : CtrV l g y cc nL d av M post) (hp : ∀ M1, post M1 → post' M1) : CtrV l g y cc nL d av M post' := by
  intro p e ha hc hk s m args below hf happ hP _
  obtain ⟨n, o, h1, h2, h3, ⟨⟨M1, a1, a2, a3⟩, a4⟩, h5⟩ := h p e ha hc hk s m args below hf happ hP trivial
  exact ⟨n, o, h1, h2, h3, ⟨⟨M1, a1, hp M1 a2, a3⟩, a4⟩, h5⟩
theorem ctrI_mono {l : Launch} {g : GT} {y : MethodName} {cc : ByteArray} {nL d : Nat} {ret : Option FieldType} {av : List Value} {M : Mem} {post post' : Int32 → Mem → Prop} (h : CtrI l g y cc nL ret d av M post) (hp : ∀ r M1, post r M1 → post' r M1) : CtrI l g y cc nL ret d av M post' := by
  intro p e ha hc hk s m args below hf happ hP _
  obtain ⟨n, o, h1, h2, h3, ⟨⟨r, M1, a1, a2, a3⟩, a4⟩, h5⟩ := h p e ha hc hk s m args below hf happ hP trivial
  exact ⟨n, o, h1, h2, h3, ⟨⟨r, M1, a1, hp r M1 a2, a3⟩, a4⟩, h5⟩
def gF (M : Mem) (n : Nat) (pat : Int32) : Mem := mrow M 92 (fun q => if 6 ≤ q ∧ q < 6 + 7 * n then pYRm (mF M) n pat ((q - 6) / 7) ((q - 6) % 7) else if q = 0 then M 92 0 + 1 else M 92 q)
theorem goesTo_eq {M M1 : Mem} {n : Nat} {pat : Int32} (h : goesTo M M1 n pat) : M1 = gF M n pat := by
  obtain ⟨h1, h2, h3, h4⟩ := h
  funext a
  by_cases e : a = 92
  · subst e
    unfold gF; rw [mrow_s]
    funext q
    by_cases c : 6 ≤ q ∧ q < 6 + 7 * n
    · rw [if_pos c, ← h1 ((q - 6) / 7) (by omega) ((q - 6) % 7) (by omega)]
      unfold mF; congr 1; omega
    · rw [if_neg c]
      by_cases z : q = 0
      · subst z; rw [if_pos rfl]; exact h2
      · rw [if_neg z]; exact h3 q c z
  · unfold gF; rw [mrow_n _ _ e]; exact h4 a e
theorem gF_at {M : Mem} {n : Nat} {pat : Int32} {q : Nat} (h : ¬ (6 ≤ q ∧ q < 6 + 7 * n)) (h0 : q ≠ 0) : gF M n pat 92 q = M 92 q := by
  unfold gF; rw [mrow_s, if_neg h, if_neg h0]
theorem gF_o {M : Mem} {n : Nat} {pat : Int32} {a : Nat} (h : a ≠ 92) : gF M n pat a = M a := mrow_n _ _ h
theorem gF_0 (M : Mem) (n : Nat) (pat : Int32) : gF M n pat 92 0 = M 92 0 + 1 := by
  unfold gF; rw [mrow_s, if_neg (by omega), if_pos rfl]
theorem gF_in {M : Mem} {n : Nat} {pat : Int32} {i j : Nat} (hi : i < n) (hj : j < 7) : mF (gF M n pat) i j = pYRm (mF M) n pat i j := by
  unfold mF gF; rw [mrow_s, if_pos (by omega)]
  rw [show (6 + 7 * i + j - 6) / 7 = i by omega, show (6 + 7 * i + j - 6) % 7 = j by omega]; rfl
theorem qX10_goesU (l : Launch) (g : GT) (M : Mem) {n : Nat} (hn : M 92 2 = nI n) (h12 : n ≤ 12) : CtrU l g yX10_goes cX10_goes 3 4 [.ref (ga g 91)] M (gF M n (M 92 3)) :=
  ctrV_mono (qX10_goes l g M hn h12) (fun _ h => goesTo_eq h)
def gN (n : Nat) (pat : Int32) (M : Mem) : Nat → Mem
  | 0 => M
  | k + 1 => gF (gN n pat M k) n pat
theorem gN_at {n : Nat} {pat : Int32} {M : Mem} {q : Nat} (h : ¬ (6 ≤ q ∧ q < 6 + 7 * n)) (h0 : q ≠ 0) : ∀ k, gN n pat M k 92 q = M 92 q
  | 0 => rfl
  | k + 1 => by rw [gN, gF_at h h0, gN_at h h0 k]
theorem gN_o {n : Nat} {pat : Int32} {M : Mem} {a : Nat} (h : a ≠ 92) : ∀ k, gN n pat M k a = M a
  | 0 => rfl
  | k + 1 => by rw [gN, gF_o h, gN_o h k]
theorem goesN_eq {n : Nat} {pat : Int32} : ∀ {k : Nat} {M M1 : Mem}, goesN n pat k M M1 → M1 = gN n pat M k
  | 0, _, _, h => h
  | k + 1, M, M1, h => by
    obtain ⟨M2, h3, h4⟩ := h
    rw [goesTo_eq h4, goesN_eq h3]; rfl
/-- the first of k places from i on at which P isn't so -/
def fstK (P : Nat → Bool) : Nat → Nat → Nat
  | 0, i => i
  | k + 1, i => if P i then fstK P k (i + 1) else i
theorem fstK_hit {P : Nat → Bool} {b i : Nat} (h : i < b) (hp : P i = false) : fstK P (b - i) i = i := by
  rw [show b - i = (b - (i + 1)) + 1 by omega]; simp only [fstK]; rw [hp]; rfl
theorem fstK_go {P : Nat → Bool} {b i : Nat} (h : i < b) (hp : P i = true) : fstK P (b - i) i = fstK P (b - (i + 1)) (i + 1) := by
  rw [show b - i = (b - (i + 1)) + 1 by omega]; simp only [fstK]; rw [hp]; rfl
theorem fstK_end {P : Nat → Bool} {b i : Nat} (h : b ≤ i) : fstK P (b - i) i = i := by
  rw [show b - i = 0 by omega]; rfl
theorem fstK_ge (P : Nat → Bool) : ∀ k i, i ≤ fstK P k i ∧ fstK P k i ≤ i + k
  | 0, i => ⟨Nat.le_refl _, Nat.le_refl _⟩
  | k + 1, i => by
    have h := fstK_ge P k (i + 1)
    simp only [fstK]; split
    · omega
    · omega
theorem fstK_congr {P Q : Nat → Bool} : ∀ (k i : Nat), (∀ j, i ≤ j → j < i + k → P j = Q j) → fstK P k i = fstK Q k i
  | 0, _, _ => rfl
  | k + 1, i, h => by
    simp only [fstK]
    rw [h i (Nat.le_refl _) (by omega), fstK_congr k (i + 1) (fun j h1 h2 => h j (by omega) (by omega))]
/-- the first of k years from i on at which P is so -/
def pFit (P : Nat → Bool) : Nat → Nat → Option Nat
  | 0, _ => none
  | k + 1, i => if P i then some i else pFit P k (i + 1)
theorem pFit_hit {P : Nat → Bool} {b i : Nat} (h : i < b) (hp : P i = true) : pFit P (b - i) i = some i := by
  rw [show b - i = (b - (i + 1)) + 1 by omega]; simp only [pFit]; rw [hp]; rfl
theorem pFit_go {P : Nat → Bool} {b i : Nat} (h : i < b) (hp : P i = false) : pFit P (b - i) i = pFit P (b - (i + 1)) (i + 1) := by
  rw [show b - i = (b - (i + 1)) + 1 by omega]; simp only [pFit]; rw [hp]; rfl
theorem pFit_end {P : Nat → Bool} {b i : Nat} (h : b ≤ i) : pFit P (b - i) i = none := by
  rw [show b - i = 0 by omega]; rfl
theorem pFit_congr {P Q : Nat → Bool} : ∀ (k i : Nat), (∀ j, i ≤ j → j < i + k → P j = Q j) → pFit P k i = pFit Q k i
  | 0, _, _ => rfl
  | k + 1, i, h => by
    simp only [pFit]
    rw [h i (Nat.le_refl _) (by omega), pFit_congr k (i + 1) (fun j h1 h2 => h j (by omega) (by omega))]
/-- how many seen ones there are as a row of z numbers tells how long they are; none: it tells otherwise -/
def tlS (C : Nat → Int32) (z : Nat) (F : Nat → Nat → Int32) : Nat → Option Nat
  | 0 => some 0
  | i + 1 => if F i 6 = 0 then (match tlS C z F i with
    | none => none
    | some c => if c < z ∧ C c = F i 2 then some (c + 1) else none) else tlS C z F i
theorem tlS_le (C : Nat → Int32) (z : Nat) (F : Nat → Nat → Int32) : ∀ i c, tlS C z F i = some c → c ≤ i
  | 0, c, h => by
    have e : 0 = c := Option.some.inj h
    omega
  | i + 1, c, h => by
    simp only [tlS] at h
    split at h
    · split at h
      · cases h
      · rename_i c0 hc
        have h1 := tlS_le C z F i _ hc
        split at h
        · have e := Option.some.inj h; omega
        · cases h
    · have h1 := tlS_le C z F i c h; omega
theorem tlS_no (C : Nat → Int32) (z : Nat) (F : Nat → Nat → Int32) {i : Nat} (h : tlS C z F i = none) : ∀ k, tlS C z F (i + k) = none
  | 0 => h
  | k + 1 => by
    show tlS C z F (i + k + 1) = none
    simp only [tlS]; rw [tlS_no C z F h k]; simp
theorem tlS_skip {C : Nat → Int32} {z : Nat} {F : Nat → Nat → Int32} {i : Nat} (h : ¬ F i 6 = 0) : tlS C z F (i + 1) = tlS C z F i := if_neg h
theorem tlS_yes {C : Nat → Int32} {z : Nat} {F : Nat → Nat → Int32} {i c : Nat} (h : F i 6 = 0) (h1 : tlS C z F i = some c) (h2 : c < z) (h3 : C c = F i 2) : tlS C z F (i + 1) = some (c + 1) := by
  simp only [tlS]; rw [if_pos h, h1]; exact if_pos ⟨h2, h3⟩
theorem tlS_not {C : Nat → Int32} {z : Nat} {F : Nat → Nat → Int32} {i c : Nat} (h : F i 6 = 0) (h1 : tlS C z F i = some c) (h2 : ¬ (c < z ∧ C c = F i 2)) : tlS C z F (i + 1) = none := by
  simp only [tlS]; rw [if_pos h, h1]; exact if_neg h2
theorem tlS_nn {C : Nat → Int32} {z : Nat} {F : Nat → Nat → Int32} {i : Nat} (h1 : tlS C z F i = none) : tlS C z F (i + 1) = none := tlS_no C z F h1 1
/-- the reference's years by draws -/
def pDm (M : Mem) (n : Nat) : Mem :=
  let z0 := M 92 1
  pCome (mu (mu (mu M 92 1 (pNd z0)) 92 1 (pNd (pNd z0))) 92 1 (pNd (pNd (pNd z0)))) n (10 * pRem (pUs (pNd z0)) 7) (1 + pRem (pUs (pNd (pNd z0))) 72 / 6) (pRem (pRem (pUs (pNd (pNd z0))) 72) 6) (pRem (pUs (pNd (pNd (pNd z0)))) 6)
theorem pCome_2 (M : Mem) (n : Nat) (km lo cr hand : Int32) : pCome M n km lo cr hand 92 2 = nI (n + 1) := by
  unfold pCome; simp only [mu_at, true_and]; (repeat rw [if_neg (by omega)]); rfl
theorem pCome_3 (M : Mem) (n : Nat) (km lo cr hand : Int32) : pCome M n km lo cr hand 92 3 = M 92 3 := by
  unfold pCome; simp only [mu_at, true_and]; (repeat rw [if_neg (by omega)])
theorem pDm_2 (M : Mem) (n : Nat) : pDm M n 92 2 = nI (n + 1) := pCome_2 _ _ _ _ _ _
theorem pDm_3 (M : Mem) (n : Nat) : pDm M n 92 3 = M 92 3 := by
  unfold pDm; rw [pCome_3]; simp [mu_at]
def pLm (M : Mem) (n : Nat) : Nat → Mem × Nat
  | 0 => (M, n)
  | k + 1 => if (pLm M n k).2 < 12 then (gF (pDm (pLm M n k).1 (pLm M n k).2) ((pLm M n k).2 + 1) ((pLm M n k).1 92 3), (pLm M n k).2 + 1) else (gF (pLm M n k).1 (pLm M n k).2 ((pLm M n k).1 92 3), (pLm M n k).2)
theorem pLm_ok {M : Mem} {n : Nat} (hn : M 92 2 = nI n) (h12 : n ≤ 12) : ∀ k, (pLm M n k).1 92 2 = nI (pLm M n k).2 ∧ (pLm M n k).2 ≤ 12
  | 0 => ⟨hn, h12⟩
  | k + 1 => by
    have h := pLm_ok hn h12 k
    simp only [pLm]
    split
    · rename_i hq
      refine ⟨?_, hq⟩
      show gF (pDm (pLm M n k).1 (pLm M n k).2) ((pLm M n k).2 + 1) ((pLm M n k).1 92 3) 92 2 = nI ((pLm M n k).2 + 1)
      rw [gF_at (by omega) (by decide)]; exact pDm_2 _ _
    · refine ⟨?_, h.2⟩
      show gF (pLm M n k).1 (pLm M n k).2 ((pLm M n k).1 92 3) 92 2 = nI (pLm M n k).2
      rw [gF_at (by omega) (by decide)]; exact h.1
theorem pLm_a {M : Mem} {n k : Nat} (h : (pLm M n k).2 < 12) : pLm M n (k + 1) = (gF (pDm (pLm M n k).1 (pLm M n k).2) ((pLm M n k).2 + 1) ((pLm M n k).1 92 3), (pLm M n k).2 + 1) := if_pos h
theorem pLm_b {M : Mem} {n k : Nat} (h : ¬ (pLm M n k).2 < 12) : pLm M n (k + 1) = (gF (pLm M n k).1 (pLm M n k).2 ((pLm M n k).1 92 3), (pLm M n k).2) := if_neg h
theorem mlawOk_of {M M1 : Mem} {u n : Nat} {p : Nat → Int32} (h : mlawOk M u n p) (e : M1 92 = M 92) : mlawOk M1 u n p := by
  unfold mlawOk; rw [e]; exact h
theorem pMean_y {F : Nat → Nat → Int32} {n : Nat} {p : Nat → Int32} {w : Int32} {i : Nat} (h : (pIsAns F i && (decide (w < 0) || decide (F i 4 = w))) = true) : pMean F n p w (i + 1) = pMean F n p w i + pGive 1 n p (F i 2) (F i 3) (pDepth (F i)) := by
  simp only [pMean]; rw [if_pos h]
theorem pMean_n {F : Nat → Nat → Int32} {n : Nat} {p : Nat → Int32} {w : Int32} {i : Nat} (h : (pIsAns F i && (decide (w < 0) || decide (F i 4 = w))) = false) : pMean F n p w (i + 1) = pMean F n p w i + 0 := by
  simp only [pMean]; rw [h]; simp
def wtP (W : Nat → Int32) (F : Nat → Nat → Int32) (n i : Nat) : Bool := decide (i < n) && decide (W i = F i 5)
def jdP (C : Nat → Int32) (F : Nat → Nat → Int32) (n1 : Nat) (p : Nat → Int32) (i : Nat) : Bool := decide (C i = pGive 1 n1 p (F i 2) (F i 3) (pDepth (F i)))
def chk (u k : Nat) : Int32 := if k < u then nI (1 + k) else 0
theorem fitsM_q {M : Mem} {n : Nat} {pat : Int32} {i : Nat} (q : Nat) (hq : q < 416) : (mrow (gN n pat (mrow M 94 (cpA 416 (M 92) (M 94))) i) 92 (cpA 416 (gN n pat (mrow M 94 (cpA 416 (M 92) (M 94))) i 94) (gN n pat (mrow M 94 (cpA 416 (M 92) (M 94))) i 92))) 92 q = M 92 q := by
  rw [mrow_s, gN_o (by decide), mrow_s]
  unfold cpA; rw [if_pos hq, if_pos hq]
theorem fitsM_a {M : Mem} {n : Nat} {pat : Int32} {i : Nat} {a : Nat} (h1 : a ≠ 92) (h2 : a ≠ 94) : (mrow (gN n pat (mrow M 94 (cpA 416 (M 92) (M 94))) i) 92 (cpA 416 (gN n pat (mrow M 94 (cpA 416 (M 92) (M 94))) i 94) (gN n pat (mrow M 94 (cpA 416 (M 92) (M 94))) i 92))) a = M a := by
  rw [mrow_n _ _ h1, gN_o h1, mrow_n _ _ h2]
set_option maxHeartbeats 4000000 in
set_option maxRecDepth 20000 in
theorem qX10_loose_t (l : Launch) (g : GT) (M : Mem) {n : Nat} (hn : M 92 2 = nI n) (h12 : n ≤ 12) {y : Nat} (h1 : 1 ≤ y) (h2 : y ≤ 20) {z : Nat} (hz : M 92 0 = nI z) (h9 : z ≤ 9999) (hzy : z + y ≤ 9999) : CtrE l g yX10_loose cX10_loose 6 (some .int) 5 [.ref (ga g 91), .int (nI y)] M (nI (popc (pSet (mF (pLm M n y).1) (pLm M n y).2))) ((pLm M n y).1) := by
  refine ctrI_of (by decide +kernel) (Nat.le_of_ble_eq_true rfl) ?_
  intro pP eE RR sS mI aG bB mE cD C
  refine k_lo (lo' := [(0, .ref (ga g 91)), (1, .int (nI y))]) rfl ?_
  refine k_iload_n C 1 1 rfl rfl dX10_loose_0 rfl ?_
  refine k_iconst C 2 (v := 1) (by decide) dX10_loose_1 rfl ?_
  refine k_bipush C 4 (v := 20) (by decide) dX10_loose_2 rfl ?_
  refine k_callSE C 7 (As := [.int (nI y), .int 1, .int 20]) (st := []) mwX10_54 skX10_in (qX10_in l g M (nI y) 1 20) mlX10_in (by decide) (by decide) rfl rfl (Nat.le_of_ble_eq_true rfl) dX10_loose_4 rfl ?_
  refine k_if_neB C 17 10 dX10_loose_7 (by decide) rfl (fun c7 => ?_) (fun d7 => ?_)
  · skip
    refine k_aload_n C 18 0 rfl rfl dX10_loose_17 rfl ?_
    refine k_get C 21 flX10_9 91 (by decide) (v := .ref (ga g 92)) (ce_91 g _) rfl dX10_loose_18 rfl ?_
    refine k_iconst C 22 (v := 0) (by decide) dX10_loose_21 rfl ?_
    refine k_iald C 23 92 0 (by decide) (ce_92 g) (by decide) rfl (by omega) dX10_loose_22 rfl ?_
    refine k_teq (y := nI z) hz ?_
    refine k_iload_n C 24 1 rfl rfl dX10_loose_23 rfl ?_
    refine k_iadd C 25 dX10_loose_24 rfl ?_
    refine k_teq (nI_add z y) ?_
    refine k_sipush C 28 (v := 9999) (by decide) dX10_loose_25 rfl ?_
    refine k_icmp_le C 38 31 dX10_loose_28 (by decide) rfl (fun c28 => ?_) (fun d28 => ?_)
    · skip
      have c28 := (nI_leI (by omega) (by omega)).mp (show nI (z + y) ≤ nI 9999 from c28)
      refine k_iconst C 39 (v := 0) (by decide) dX10_loose_38 rfl ?_
      refine k_istore_n C 40 [(2, .int 0), (0, .ref (ga g 91)), (1, .int (nI y))] rfl (by decide) rfl dX10_loose_39 rfl ?_
      refine k_sub [(0, .ref (ga g 91)), (1, .int (nI y)), (2, .int 0)] [1, 2, 0] rfl ?_
      refine k_all (M' := (pLm M n 0).1) (lo' := [(0, .ref (ga g 91)), (1, .int (nI y)), (2, .int (nI 0))]) (st' := []) (by rfl) (by rfl) rfl ?_
      refine k_loop (σ := Nat) (fun (k : Nat) => (k ≤ y)) (fun (k : Nat) => y - k) (fun (k : Nat) => (pLm M n k).1) (fun (k : Nat) => [(0, .ref (ga g 91)), (1, .int (nI y)), (2, .int (nI k))]) 0 (show (0 ≤ y) from by exact Nat.zero_le _) ?_
      rintro k hI ih
      have hI : (k ≤ y) := hI
      have hk := hI
      show KW pP l eE RR sS mI aG bB mE cD g 6 _ ((pLm M n k).1) 40 [(0, .ref (ga g 91)), (1, .int (nI y)), (2, .int (nI k))] []
      have hq := (pLm_ok hn h12 k).2
      refine k_iload_n C 41 2 rfl rfl dX10_loose_40 rfl ?_
      refine k_iload_n C 42 1 rfl rfl dX10_loose_41 rfl ?_
      refine k_icmp_ge C 112 45 dX10_loose_42 (by decide) rfl (fun c42 => ?_) (fun d42 => ?_)
      · skip
        have c42 := (nI_leI (by omega) (by omega)).mp (show nI y ≤ nI k from c42)
        refine k_aload_n C 113 0 rfl rfl dX10_loose_112 rfl ?_
        refine k_callVE C 116 (As := []) (st := []) 91 (by decide) (ce_91 g _) rfl rfl mwX10_184 vlX10_seen (qX10_seen l g ((pLm M n k).1) (n := (pLm M n k).2) (pLm_ok hn h12 k).1 (pLm_ok hn h12 k).2) mlX10_seen (by decide) (by decide) rfl rfl (Nat.le_of_ble_eq_true rfl) dX10_loose_113 rfl ?_
        refine k_callSE C 119 (As := [.int (nI (pSet (mF ((pLm M n k).1)) (pLm M n k).2))]) (st := []) mwX10_187 skX10_bits (qX10_bits l g ((pLm M n k).1) (m := pSet (mF ((pLm M n k).1)) (pLm M n k).2) (Nat.lt_of_lt_of_le (pSet_lt _ _) (Nat.pow_le_pow_right (by decide) (pLm_ok hn h12 k).2))) mlX10_bits (by decide) (by decide) rfl rfl (Nat.le_of_ble_eq_true rfl) dX10_loose_116 rfl ?_
        refine k_ret C rfl dX10_loose_119 ?_
        have e : k = y := by omega
        subst e
        exact ⟨rfl, rfl⟩
      · skip
        have d42 := mt (nI_leI (by omega) (by omega)).mpr (show ¬ (nI y ≤ nI k) from d42)
        refine k_aload_n C 46 0 rfl rfl dX10_loose_45 rfl ?_
        refine k_get C 49 flX10_9 91 (by decide) (v := .ref (ga g 92)) (ce_91 g _) rfl dX10_loose_46 rfl ?_
        refine k_iconst C 50 (v := 2) (by decide) dX10_loose_49 rfl ?_
        refine k_iald C 51 92 2 (by decide) (ce_92 g) (by decide) rfl (by omega) dX10_loose_50 rfl ?_
        refine k_teq (y := nI ((pLm M n k).2)) (pLm_ok hn h12 k).1 ?_
        refine k_bipush C 53 (v := 12) (by decide) dX10_loose_51 rfl ?_
        refine k_icmp_ge C 102 56 dX10_loose_53 (by decide) rfl (fun c53 => ?_) (fun d53 => ?_)
        · skip
          have c53 := (nI_leI (by omega) (by omega)).mp (show nI 12 ≤ nI ((pLm M n k).2) from c53)
          refine k_aload_n C 103 0 rfl rfl dX10_loose_102 rfl ?_
          refine k_callVU C 106 (As := []) (st := []) 91 (by decide) (ce_91 g _) rfl rfl mwX10_181 vlX10_goes (qX10_goesU l g ((pLm M n k).1) (n := (pLm M n k).2) (pLm_ok hn h12 k).1 (pLm_ok hn h12 k).2) mlX10_goes (by decide) (by decide) rfl rfl (Nat.le_of_ble_eq_true rfl) dX10_loose_103 rfl ?_
          refine k_iinc C 109 (nI (k + 1)) 2 [(2, .int (nI (k + 1))), (0, .ref (ga g 91)), (1, .int (nI y))] rfl (iinc_p k) (by decide) rfl dX10_loose_106 rfl ?_
          refine k_goto C 40 dX10_loose_109 (by decide) ?_
          refine k_sub [(0, .ref (ga g 91)), (1, .int (nI y)), (2, .int (nI (k + 1)))] [1, 2, 0] rfl ?_
          refine k_all (M' := (pLm M n (k + 1)).1) (lo' := [(0, .ref (ga g 91)), (1, .int (nI y)), (2, .int (nI (k + 1)))]) (st' := []) (by rw [pLm_b (by omega)]) (by rfl) rfl ?_
          exact ih (k + 1) (show ((k + 1) ≤ y) from by omega) (by show y - (k + 1) < _; omega)
        · skip
          have d53 := mt (nI_leI (by omega) (by omega)).mpr (show ¬ (nI 12 ≤ nI ((pLm M n k).2)) from d53)
          refine k_aload_n C 57 0 rfl rfl dX10_loose_56 rfl ?_
          refine k_callVE C 60 (As := []) (st := []) 91 (by decide) (ce_91 g _) rfl rfl mwX10_191 vlX10_draw (qX10_draw l g ((pLm M n k).1)) mlX10_draw (by decide) (by decide) rfl rfl (Nat.le_of_ble_eq_true rfl) dX10_loose_57 rfl ?_
          refine k_bipush C 62 (v := 7) (by decide) dX10_loose_60 rfl ?_
          refine k_irem C 63 (by decide) dX10_loose_62 rfl ?_
          refine k_istore_n C 64 [(3, .int ((pUs (pNd (((pLm M n k).1) 92 1))) - (pUs (pNd (((pLm M n k).1) 92 1))) / 7 * 7)), (0, .ref (ga g 91)), (1, .int (nI y)), (2, .int (nI k))] rfl (by decide) rfl dX10_loose_63 rfl ?_
          refine k_aload_n C 65 1 rfl rfl dX10_loose_64 rfl ?_
          refine k_callVE C 68 (As := []) (st := []) 91 (by decide) (ce_91 g _) rfl rfl mwX10_191 vlX10_draw (qX10_draw l g (mu ((pLm M n k).1) 92 1 (pNd (((pLm M n k).1) 92 1)))) mlX10_draw (by decide) (by decide) rfl rfl (Nat.le_of_ble_eq_true rfl) dX10_loose_65 rfl ?_
          refine k_bipush C 70 (v := 72) (by decide) dX10_loose_68 rfl ?_
          refine k_irem C 71 (by decide) dX10_loose_70 rfl ?_
          refine k_istore C 73 [(4, .int ((pUs (pNd ((mu ((pLm M n k).1) 92 1 (pNd (((pLm M n k).1) 92 1))) 92 1))) - (pUs (pNd ((mu ((pLm M n k).1) 92 1 (pNd (((pLm M n k).1) 92 1))) 92 1))) / 72 * 72)), (3, .int ((pUs (pNd (((pLm M n k).1) 92 1))) - (pUs (pNd (((pLm M n k).1) 92 1))) / 7 * 7)), (0, .ref (ga g 91)), (1, .int (nI y)), (2, .int (nI k))]  (by decide) rfl dX10_loose_71 rfl ?_
          refine k_aload_n C 74 2 rfl rfl dX10_loose_73 rfl ?_
          refine k_bipush C 76 (v := 10) (by decide) dX10_loose_74 rfl ?_
          refine k_iload_n C 77 1 rfl rfl dX10_loose_76 rfl ?_
          refine k_imul C 78 dX10_loose_77 rfl ?_
          refine k_iconst C 79 (v := 1) (by decide) dX10_loose_78 rfl ?_
          refine k_iload C 81 0  rfl dX10_loose_79 rfl ?_
          refine k_bipush C 83 (v := 6) (by decide) dX10_loose_81 rfl ?_
          refine k_idiv C 84 (by decide) dX10_loose_83 rfl ?_
          refine k_iadd C 85 dX10_loose_84 rfl ?_
          refine k_iload C 87 0  rfl dX10_loose_85 rfl ?_
          refine k_bipush C 89 (v := 6) (by decide) dX10_loose_87 rfl ?_
          refine k_irem C 90 (by decide) dX10_loose_89 rfl ?_
          refine k_aload_n C 91 2 rfl rfl dX10_loose_90 rfl ?_
          refine k_callVE C 94 (As := []) (st := [.int (((pUs (pNd ((mu ((pLm M n k).1) 92 1 (pNd (((pLm M n k).1) 92 1))) 92 1))) - (pUs (pNd ((mu ((pLm M n k).1) 92 1 (pNd (((pLm M n k).1) 92 1))) 92 1))) / 72 * 72) - ((pUs (pNd ((mu ((pLm M n k).1) 92 1 (pNd (((pLm M n k).1) 92 1))) 92 1))) - (pUs (pNd ((mu ((pLm M n k).1) 92 1 (pNd (((pLm M n k).1) 92 1))) 92 1))) / 72 * 72) / 6 * 6), .int (1 + (((pUs (pNd ((mu ((pLm M n k).1) 92 1 (pNd (((pLm M n k).1) 92 1))) 92 1))) - (pUs (pNd ((mu ((pLm M n k).1) 92 1 (pNd (((pLm M n k).1) 92 1))) 92 1))) / 72 * 72) / 6)), .int (10 * ((pUs (pNd (((pLm M n k).1) 92 1))) - (pUs (pNd (((pLm M n k).1) 92 1))) / 7 * 7)), .ref (ga g 91)]) 91 (by decide) (ce_91 g _) rfl rfl mwX10_191 vlX10_draw (qX10_draw l g (mu (mu ((pLm M n k).1) 92 1 (pNd (((pLm M n k).1) 92 1))) 92 1 (pNd ((mu ((pLm M n k).1) 92 1 (pNd (((pLm M n k).1) 92 1))) 92 1)))) mlX10_draw (by decide) (by decide) rfl rfl (Nat.le_of_ble_eq_true rfl) dX10_loose_91 rfl ?_
          refine k_bipush C 96 (v := 6) (by decide) dX10_loose_94 rfl ?_
          refine k_irem C 97 (by decide) dX10_loose_96 rfl ?_
          refine k_callVE C 100 (As := [.int (10 * ((pUs (pNd (((pLm M n k).1) 92 1))) - (pUs (pNd (((pLm M n k).1) 92 1))) / 7 * 7)), .int (1 + (((pUs (pNd ((mu ((pLm M n k).1) 92 1 (pNd (((pLm M n k).1) 92 1))) 92 1))) - (pUs (pNd ((mu ((pLm M n k).1) 92 1 (pNd (((pLm M n k).1) 92 1))) 92 1))) / 72 * 72) / 6)), .int (((pUs (pNd ((mu ((pLm M n k).1) 92 1 (pNd (((pLm M n k).1) 92 1))) 92 1))) - (pUs (pNd ((mu ((pLm M n k).1) 92 1 (pNd (((pLm M n k).1) 92 1))) 92 1))) / 72 * 72) - ((pUs (pNd ((mu ((pLm M n k).1) 92 1 (pNd (((pLm M n k).1) 92 1))) 92 1))) - (pUs (pNd ((mu ((pLm M n k).1) 92 1 (pNd (((pLm M n k).1) 92 1))) 92 1))) / 72 * 72) / 6 * 6), .int ((pUs (pNd ((mu (mu ((pLm M n k).1) 92 1 (pNd (((pLm M n k).1) 92 1))) 92 1 (pNd ((mu ((pLm M n k).1) 92 1 (pNd (((pLm M n k).1) 92 1))) 92 1))) 92 1))) - (pUs (pNd ((mu (mu ((pLm M n k).1) 92 1 (pNd (((pLm M n k).1) 92 1))) 92 1 (pNd ((mu ((pLm M n k).1) 92 1 (pNd (((pLm M n k).1) 92 1))) 92 1))) 92 1))) / 6 * 6)]) (st := []) 91 (by decide) (ce_91 g _) rfl rfl mwX10_99 vlX10_comes (qX10_comes l g (mu (mu (mu ((pLm M n k).1) 92 1 (pNd (((pLm M n k).1) 92 1))) 92 1 (pNd ((mu ((pLm M n k).1) 92 1 (pNd (((pLm M n k).1) 92 1))) 92 1))) 92 1 (pNd ((mu (mu ((pLm M n k).1) 92 1 (pNd (((pLm M n k).1) 92 1))) 92 1 (pNd ((mu ((pLm M n k).1) 92 1 (pNd (((pLm M n k).1) 92 1))) 92 1))) 92 1))) (n := (pLm M n k).2) (by rw [mu_o _ _ _ (by decide), mu_o _ _ _ (by decide), mu_o _ _ _ (by decide)]; exact (pLm_ok hn h12 k).1) (by omega) (10 * ((pUs (pNd (((pLm M n k).1) 92 1))) - (pUs (pNd (((pLm M n k).1) 92 1))) / 7 * 7)) (1 + (((pUs (pNd ((mu ((pLm M n k).1) 92 1 (pNd (((pLm M n k).1) 92 1))) 92 1))) - (pUs (pNd ((mu ((pLm M n k).1) 92 1 (pNd (((pLm M n k).1) 92 1))) 92 1))) / 72 * 72) / 6)) (((pUs (pNd ((mu ((pLm M n k).1) 92 1 (pNd (((pLm M n k).1) 92 1))) 92 1))) - (pUs (pNd ((mu ((pLm M n k).1) 92 1 (pNd (((pLm M n k).1) 92 1))) 92 1))) / 72 * 72) - ((pUs (pNd ((mu ((pLm M n k).1) 92 1 (pNd (((pLm M n k).1) 92 1))) 92 1))) - (pUs (pNd ((mu ((pLm M n k).1) 92 1 (pNd (((pLm M n k).1) 92 1))) 92 1))) / 72 * 72) / 6 * 6) ((pUs (pNd ((mu (mu ((pLm M n k).1) 92 1 (pNd (((pLm M n k).1) 92 1))) 92 1 (pNd ((mu ((pLm M n k).1) 92 1 (pNd (((pLm M n k).1) 92 1))) 92 1))) 92 1))) - (pUs (pNd ((mu (mu ((pLm M n k).1) 92 1 (pNd (((pLm M n k).1) 92 1))) 92 1 (pNd ((mu ((pLm M n k).1) 92 1 (pNd (((pLm M n k).1) 92 1))) 92 1))) 92 1))) / 6 * 6)) mlX10_comes (by decide) (by decide) rfl rfl (Nat.le_of_ble_eq_true rfl) dX10_loose_97 rfl ?_
          refine k_istore C 102 [(5, .int (nI ((pLm M n k).2))), (4, .int ((pUs (pNd ((mu ((pLm M n k).1) 92 1 (pNd (((pLm M n k).1) 92 1))) 92 1))) - (pUs (pNd ((mu ((pLm M n k).1) 92 1 (pNd (((pLm M n k).1) 92 1))) 92 1))) / 72 * 72)), (3, .int ((pUs (pNd (((pLm M n k).1) 92 1))) - (pUs (pNd (((pLm M n k).1) 92 1))) / 7 * 7)), (0, .ref (ga g 91)), (1, .int (nI y)), (2, .int (nI k))]  (by decide) rfl dX10_loose_100 rfl ?_
          refine k_aload_n C 103 3 rfl rfl dX10_loose_102 rfl ?_
          refine k_callVU C 106 (As := []) (st := []) 91 (by decide) (ce_91 g _) rfl rfl mwX10_181 vlX10_goes (qX10_goesU l g (pCome (mu (mu (mu ((pLm M n k).1) 92 1 (pNd (((pLm M n k).1) 92 1))) 92 1 (pNd ((mu ((pLm M n k).1) 92 1 (pNd (((pLm M n k).1) 92 1))) 92 1))) 92 1 (pNd ((mu (mu ((pLm M n k).1) 92 1 (pNd (((pLm M n k).1) 92 1))) 92 1 (pNd ((mu ((pLm M n k).1) 92 1 (pNd (((pLm M n k).1) 92 1))) 92 1))) 92 1))) (pLm M n k).2 (10 * ((pUs (pNd (((pLm M n k).1) 92 1))) - (pUs (pNd (((pLm M n k).1) 92 1))) / 7 * 7)) (1 + (((pUs (pNd ((mu ((pLm M n k).1) 92 1 (pNd (((pLm M n k).1) 92 1))) 92 1))) - (pUs (pNd ((mu ((pLm M n k).1) 92 1 (pNd (((pLm M n k).1) 92 1))) 92 1))) / 72 * 72) / 6)) (((pUs (pNd ((mu ((pLm M n k).1) 92 1 (pNd (((pLm M n k).1) 92 1))) 92 1))) - (pUs (pNd ((mu ((pLm M n k).1) 92 1 (pNd (((pLm M n k).1) 92 1))) 92 1))) / 72 * 72) - ((pUs (pNd ((mu ((pLm M n k).1) 92 1 (pNd (((pLm M n k).1) 92 1))) 92 1))) - (pUs (pNd ((mu ((pLm M n k).1) 92 1 (pNd (((pLm M n k).1) 92 1))) 92 1))) / 72 * 72) / 6 * 6) ((pUs (pNd ((mu (mu ((pLm M n k).1) 92 1 (pNd (((pLm M n k).1) 92 1))) 92 1 (pNd ((mu ((pLm M n k).1) 92 1 (pNd (((pLm M n k).1) 92 1))) 92 1))) 92 1))) - (pUs (pNd ((mu (mu ((pLm M n k).1) 92 1 (pNd (((pLm M n k).1) 92 1))) 92 1 (pNd ((mu ((pLm M n k).1) 92 1 (pNd (((pLm M n k).1) 92 1))) 92 1))) 92 1))) / 6 * 6)) (n := (pLm M n k).2 + 1) (pCome_2 _ _ _ _ _ _) (by omega)) mlX10_goes (by decide) (by decide) rfl rfl (Nat.le_of_ble_eq_true rfl) dX10_loose_103 rfl ?_
          refine k_iinc C 109 (nI (k + 1)) 5 [(2, .int (nI (k + 1))), (5, .int (nI ((pLm M n k).2))), (4, .int ((pUs (pNd ((mu ((pLm M n k).1) 92 1 (pNd (((pLm M n k).1) 92 1))) 92 1))) - (pUs (pNd ((mu ((pLm M n k).1) 92 1 (pNd (((pLm M n k).1) 92 1))) 92 1))) / 72 * 72)), (3, .int ((pUs (pNd (((pLm M n k).1) 92 1))) - (pUs (pNd (((pLm M n k).1) 92 1))) / 7 * 7)), (0, .ref (ga g 91)), (1, .int (nI y))] rfl (iinc_p k) (by decide) rfl dX10_loose_106 rfl ?_
          refine k_goto C 40 dX10_loose_109 (by decide) ?_
          refine k_sub [(0, .ref (ga g 91)), (1, .int (nI y)), (2, .int (nI (k + 1)))] [4, 5, 0] rfl ?_
          refine k_all (M' := (pLm M n (k + 1)).1) (lo' := [(0, .ref (ga g 91)), (1, .int (nI y)), (2, .int (nI (k + 1)))]) (st' := []) (by rw [pLm_a (by omega)]; show gF _ _ _ = gF _ _ _; rw [pCome_3]; simp only [mu_o _ _ _ (show (3 : Nat) ≠ 1 by decide), mu_s]; rfl) (by rfl) rfl ?_
          exact ih (k + 1) (show ((k + 1) ≤ y) from by omega) (by show y - (k + 1) < _; omega)
    · skip
      have d28 := mt (nI_leI (by omega) (by omega)).mpr (show ¬ (nI (z + y) ≤ nI 9999) from d28)
      exact absurd d28 (by omega)
  · skip
    exact (bz d7 (rg_le (a := 1) (b := 20) h1 h2 (by decide))).elim
set_option maxHeartbeats 4000000 in
set_option maxRecDepth 20000 in
theorem qX10_meaning_t (l : Launch) (g : GT) (M : Mem) {n : Nat} (hn : M 92 2 = nI n) (h12 : n ≤ 12) (w : Int32) (hw : (decide ((-1) ≤ w) && decide (w ≤ 5)) = true) {n1 : Nat} (p : Nat → Int32) (hL : mlawOk M 1 n1 p) : CtrI l g yX10_meaning cX10_meaning 5 (some .int) 4 [.ref (ga g 91), .int w] M (fun r M1 => r = pMean (mF M) n1 p w n ∧ ∀ q, q ≠ 101 → q ≠ 102 → M1 q = M q) := by
  refine ctrI_of (by decide +kernel) (Nat.le_of_ble_eq_true rfl) ?_
  intro pP eE RR sS mI aG bB mE cD C
  refine k_lo (lo' := [(0, .ref (ga g 91)), (1, .int w)]) rfl ?_
  refine k_iload_n C 1 1 rfl rfl dX10_meaning_0 rfl ?_
  refine k_iconst C 2 (v := (-1)) (by decide) dX10_meaning_1 rfl ?_
  refine k_iconst C 3 (v := 5) (by decide) dX10_meaning_2 rfl ?_
  refine k_callSE C 6 (As := [.int w, .int (-1), .int 5]) (st := []) mwX10_54 skX10_in (qX10_in l g M w (-1) 5) mlX10_in (by decide) (by decide) rfl rfl (Nat.le_of_ble_eq_true rfl) dX10_meaning_3 rfl ?_
  refine k_if_neB C 16 9 dX10_meaning_6 (by decide) rfl (fun c6 => ?_) (fun d6 => ?_)
  · skip
    refine k_iconst C 17 (v := 0) (by decide) dX10_meaning_16 rfl ?_
    refine k_istore_n C 18 [(2, .int 0), (0, .ref (ga g 91)), (1, .int w)] rfl (by decide) rfl dX10_meaning_17 rfl ?_
    refine k_iconst C 19 (v := 0) (by decide) dX10_meaning_18 rfl ?_
    refine k_istore_n C 20 [(3, .int 0), (2, .int 0), (0, .ref (ga g 91)), (1, .int w)] rfl (by decide) rfl dX10_meaning_19 rfl ?_
    refine k_sub [(0, .ref (ga g 91)), (1, .int w), (2, .int 0), (3, .int 0)] [2, 3, 1, 0] rfl ?_
    refine k_all (M' := M) (lo' := [(0, .ref (ga g 91)), (1, .int w), (2, .int (pMean (mF M) n1 p w 0)), (3, .int (nI 0))]) (st' := []) (by rfl) (by rfl) rfl ?_
    refine k_loop (σ := Nat × Mem) (fun (v : Nat × Mem) => match v with | (i, M1) => (i ≤ n) ∧ (∀ q, q ≠ 101 → q ≠ 102 → M1 q = M q)) (fun (v : Nat × Mem) => match v with | (i, M1) => n - i) (fun (v : Nat × Mem) => match v with | (i, M1) => M1) (fun (v : Nat × Mem) => match v with | (i, M1) => [(0, .ref (ga g 91)), (1, .int w), (2, .int (pMean (mF M) n1 p w i)), (3, .int (nI i))]) (0, M) (show (0 ≤ n) ∧ (∀ q, q ≠ 101 → q ≠ 102 → M q = M q) from by exact ⟨Nat.zero_le _, fun _ _ _ => rfl⟩) ?_
    rintro ⟨i, M1⟩ hI ih
    have hI : (i ≤ n) ∧ (∀ q, q ≠ 101 → q ≠ 102 → M1 q = M q) := hI
    obtain ⟨hi, hA⟩ := hI
    show KW pP l eE RR sS mI aG bB mE cD g 5 _ (M1) 20 [(0, .ref (ga g 91)), (1, .int w), (2, .int (pMean (mF M) n1 p w i)), (3, .int (nI i))] []
    have hF : mF M1 = mF M := by unfold mF; rw [hA 92 (by decide) (by decide)]
    refine k_iload_n C 21 3 rfl rfl dX10_meaning_20 rfl ?_
    refine k_aload_n C 22 0 rfl rfl dX10_meaning_21 rfl ?_
    refine k_get C 25 flX10_9 91 (by decide) (v := .ref (ga g 92)) (ce_91 g _) rfl dX10_meaning_22 rfl ?_
    refine k_iconst C 26 (v := 2) (by decide) dX10_meaning_25 rfl ?_
    refine k_iald C 27 92 2 (by decide) (ce_92 g) (by decide) rfl (by omega) dX10_meaning_26 rfl ?_
    refine k_teq (y := nI n) (by rw [hA 92 (by decide) (by decide)]; exact hn) ?_
    refine k_icmp_ge C 82 30 dX10_meaning_27 (by decide) rfl (fun c27 => ?_) (fun d27 => ?_)
    · skip
      have c27 := (nI_leI (by omega) (by omega)).mp (show nI n ≤ nI i from c27)
      refine k_iload_n C 83 2 rfl rfl dX10_meaning_82 rfl ?_
      refine k_ret C rfl dX10_meaning_83 ?_
      have e : i = n := by omega
      subst e
      exact ⟨rfl, hA⟩
    · skip
      have d27 := mt (nI_leI (by omega) (by omega)).mpr (show ¬ (nI n ≤ nI i) from d27)
      refine k_aload_n C 31 0 rfl rfl dX10_meaning_30 rfl ?_
      refine k_iload_n C 32 3 rfl rfl dX10_meaning_31 rfl ?_
      refine k_callVE C 35 (As := [.int (nI i)]) (st := []) 91 (by decide) (ce_91 g _) rfl rfl mwX10_194 vlX10_isAnswer (qX10_isAnswer l g M1 (f := i) (by omega)) mlX10_isAnswer (by decide) (by decide) rfl rfl (Nat.le_of_ble_eq_true rfl) dX10_meaning_32 rfl ?_
      refine k_teq (y := b2i (pIsAns (mF M) i)) (by rw [hF]) ?_
      refine k_if_eqB C 56 38 dX10_meaning_35 (by decide) rfl (fun c35 => ?_) (fun d35 => ?_)
      · skip
        refine k_iconst C 57 (v := 0) (by decide) dX10_meaning_56 rfl ?_
        refine k_istore C 59 [(4, .int 0), (0, .ref (ga g 91)), (1, .int w), (2, .int (pMean (mF M) n1 p w i)), (3, .int (nI i))]  (by decide) rfl dX10_meaning_57 rfl ?_
        refine k_iload_n C 60 3 rfl rfl dX10_meaning_59 rfl ?_
        refine k_iload C 62 0  rfl dX10_meaning_60 rfl ?_
        refine k_if_eq C 73 65 dX10_meaning_62 (by decide) rfl (fun c62 => ?_) (fun d62 => ?_)
        · skip
          refine k_iconst C 74 (v := 0) (by decide) dX10_meaning_73 rfl ?_
          refine k_iadd C 75 dX10_meaning_74 rfl ?_
          refine k_istore_n C 76 [(2, .int ((pMean (mF M) n1 p w i) + 0)), (4, .int 0), (0, .ref (ga g 91)), (1, .int w), (3, .int (nI i))] rfl (by decide) rfl dX10_meaning_75 rfl ?_
          refine k_iinc C 79 (nI (i + 1)) 4 [(3, .int (nI (i + 1))), (2, .int ((pMean (mF M) n1 p w i) + 0)), (4, .int 0), (0, .ref (ga g 91)), (1, .int w)] rfl (iinc_p i) (by decide) rfl dX10_meaning_76 rfl ?_
          refine k_goto C 20 dX10_meaning_79 (by decide) ?_
          refine k_sub [(0, .ref (ga g 91)), (1, .int w), (2, .int ((pMean (mF M) n1 p w i) + 0)), (3, .int (nI (i + 1)))] [3, 4, 1, 0] rfl ?_
          refine k_all (M' := M1) (lo' := [(0, .ref (ga g 91)), (1, .int w), (2, .int (pMean (mF M) n1 p w (i + 1))), (3, .int (nI (i + 1)))]) (st' := []) (by rfl) (by rw [pMean_n (by rw [c35]; rfl)]) rfl ?_
          exact ih (i + 1, M1) (show ((i + 1) ≤ n) ∧ (∀ q, q ≠ 101 → q ≠ 102 → M1 q = M q) from by exact ⟨by omega, hA⟩) (by show n - (i + 1) < n - i; omega)
        · skip
          exact absurd d62 (by decide)
      · skip
        refine k_iload_n C 39 1 rfl rfl dX10_meaning_38 rfl ?_
        refine k_if_lt C 52 42 dX10_meaning_39 (by decide) rfl (fun c39 => ?_) (fun d39 => ?_)
        · skip
          refine k_iconst C 53 (v := 1) (by decide) dX10_meaning_52 rfl ?_
          refine k_goto C 57 dX10_meaning_53 (by decide) ?_
          refine k_istore C 59 [(4, .int 1), (0, .ref (ga g 91)), (1, .int w), (2, .int (pMean (mF M) n1 p w i)), (3, .int (nI i))]  (by decide) rfl dX10_meaning_57 rfl ?_
          refine k_iload_n C 60 3 rfl rfl dX10_meaning_59 rfl ?_
          refine k_iload C 62 0  rfl dX10_meaning_60 rfl ?_
          refine k_if_eq C 73 65 dX10_meaning_62 (by decide) rfl (fun c62 => ?_) (fun d62 => ?_)
          · skip
            exact absurd c62 (by decide)
          · skip
            refine k_aload_n C 66 1 rfl rfl dX10_meaning_65 rfl ?_
            refine k_iload_n C 67 4 rfl rfl dX10_meaning_66 rfl ?_
            refine k_callVI C 70 (As := [.int (nI i)]) (st := [.int (pMean (mF M) n1 p w i)]) 91 (by decide) (ce_91 g _) rfl rfl mwX10_105 vlX10_senseOf (qX10_senseOf l g M1 (n := n1) p (mlawOk_of hL (hA 92 (by decide) (by decide))) (f := i) (by omega)) mlX10_senseOf (by decide) (by decide) rfl rfl (Nat.le_of_ble_eq_true rfl) dX10_meaning_67 rfl (fun r2 M2 h2 => ?_)
            obtain ⟨hr2, hs2⟩ := h2
            rw [hF] at hr2
            refine k_goto C 74 dX10_meaning_70 (by decide) ?_
            refine k_iadd C 75 dX10_meaning_74 rfl ?_
            refine k_istore_n C 76 [(2, .int ((pMean (mF M) n1 p w i) + r2)), (4, .int 1), (0, .ref (ga g 91)), (1, .int w), (3, .int (nI i))] rfl (by decide) rfl dX10_meaning_75 rfl ?_
            refine k_iinc C 79 (nI (i + 1)) 4 [(3, .int (nI (i + 1))), (2, .int ((pMean (mF M) n1 p w i) + r2)), (4, .int 1), (0, .ref (ga g 91)), (1, .int w)] rfl (iinc_p i) (by decide) rfl dX10_meaning_76 rfl ?_
            refine k_goto C 20 dX10_meaning_79 (by decide) ?_
            refine k_sub [(0, .ref (ga g 91)), (1, .int w), (2, .int ((pMean (mF M) n1 p w i) + r2)), (3, .int (nI (i + 1)))] [3, 4, 1, 0] rfl ?_
            refine k_all (M' := M2) (lo' := [(0, .ref (ga g 91)), (1, .int w), (2, .int (pMean (mF M) n1 p w (i + 1))), (3, .int (nI (i + 1)))]) (st' := []) (by rfl) (by rw [pMean_y (by rw [d35, decide_eq_true c39]; rfl), hr2]) rfl ?_
            exact ih (i + 1, M2) (show ((i + 1) ≤ n) ∧ (∀ q, q ≠ 101 → q ≠ 102 → M2 q = M q) from by exact ⟨by omega, fun q h1 h2 => (hs2 q h1 h2).trans (hA q h1 h2)⟩) (by show n - (i + 1) < n - i; omega)
        · skip
          refine k_aload_n C 43 0 rfl rfl dX10_meaning_42 rfl ?_
          refine k_iload_n C 44 3 rfl rfl dX10_meaning_43 rfl ?_
          refine k_iconst C 45 (v := 4) (by decide) dX10_meaning_44 rfl ?_
          refine k_callVE C 48 (As := [.int (nI i), .int 4]) (st := []) 91 (by decide) (ce_91 g _) rfl rfl mwX10_58 vlX10_of (qX10_of l g M1 (f := i) (w := 4) (by omega) (by omega)) mlX10_of (by decide) (by decide) rfl rfl (Nat.le_of_ble_eq_true rfl) dX10_meaning_45 rfl ?_
          refine k_teq (y := mF M i 4) (by rw [hF]) ?_
          refine k_iload_n C 49 1 rfl rfl dX10_meaning_48 rfl ?_
          refine k_icmp_ne C 56 52 dX10_meaning_49 (by decide) rfl (fun c49 => ?_) (fun d49 => ?_)
          · skip
            refine k_iconst C 57 (v := 0) (by decide) dX10_meaning_56 rfl ?_
            refine k_istore C 59 [(4, .int 0), (0, .ref (ga g 91)), (1, .int w), (2, .int (pMean (mF M) n1 p w i)), (3, .int (nI i))]  (by decide) rfl dX10_meaning_57 rfl ?_
            refine k_iload_n C 60 3 rfl rfl dX10_meaning_59 rfl ?_
            refine k_iload C 62 0  rfl dX10_meaning_60 rfl ?_
            refine k_if_eq C 73 65 dX10_meaning_62 (by decide) rfl (fun c62 => ?_) (fun d62 => ?_)
            · skip
              refine k_iconst C 74 (v := 0) (by decide) dX10_meaning_73 rfl ?_
              refine k_iadd C 75 dX10_meaning_74 rfl ?_
              refine k_istore_n C 76 [(2, .int ((pMean (mF M) n1 p w i) + 0)), (4, .int 0), (0, .ref (ga g 91)), (1, .int w), (3, .int (nI i))] rfl (by decide) rfl dX10_meaning_75 rfl ?_
              refine k_iinc C 79 (nI (i + 1)) 4 [(3, .int (nI (i + 1))), (2, .int ((pMean (mF M) n1 p w i) + 0)), (4, .int 0), (0, .ref (ga g 91)), (1, .int w)] rfl (iinc_p i) (by decide) rfl dX10_meaning_76 rfl ?_
              refine k_goto C 20 dX10_meaning_79 (by decide) ?_
              refine k_sub [(0, .ref (ga g 91)), (1, .int w), (2, .int ((pMean (mF M) n1 p w i) + 0)), (3, .int (nI (i + 1)))] [3, 4, 1, 0] rfl ?_
              refine k_all (M' := M1) (lo' := [(0, .ref (ga g 91)), (1, .int w), (2, .int (pMean (mF M) n1 p w (i + 1))), (3, .int (nI (i + 1)))]) (st' := []) (by rfl) (by rw [pMean_n (by rw [d35, decide_eq_false d39, decide_eq_false c49]; rfl)]) rfl ?_
              exact ih (i + 1, M1) (show ((i + 1) ≤ n) ∧ (∀ q, q ≠ 101 → q ≠ 102 → M1 q = M q) from by exact ⟨by omega, hA⟩) (by show n - (i + 1) < n - i; omega)
            · skip
              exact absurd d62 (by decide)
          · skip
            refine k_iconst C 53 (v := 1) (by decide) dX10_meaning_52 rfl ?_
            refine k_goto C 57 dX10_meaning_53 (by decide) ?_
            refine k_istore C 59 [(4, .int 1), (0, .ref (ga g 91)), (1, .int w), (2, .int (pMean (mF M) n1 p w i)), (3, .int (nI i))]  (by decide) rfl dX10_meaning_57 rfl ?_
            refine k_iload_n C 60 3 rfl rfl dX10_meaning_59 rfl ?_
            refine k_iload C 62 0  rfl dX10_meaning_60 rfl ?_
            refine k_if_eq C 73 65 dX10_meaning_62 (by decide) rfl (fun c62 => ?_) (fun d62 => ?_)
            · skip
              exact absurd c62 (by decide)
            · skip
              refine k_aload_n C 66 1 rfl rfl dX10_meaning_65 rfl ?_
              refine k_iload_n C 67 4 rfl rfl dX10_meaning_66 rfl ?_
              refine k_callVI C 70 (As := [.int (nI i)]) (st := [.int (pMean (mF M) n1 p w i)]) 91 (by decide) (ce_91 g _) rfl rfl mwX10_105 vlX10_senseOf (qX10_senseOf l g M1 (n := n1) p (mlawOk_of hL (hA 92 (by decide) (by decide))) (f := i) (by omega)) mlX10_senseOf (by decide) (by decide) rfl rfl (Nat.le_of_ble_eq_true rfl) dX10_meaning_67 rfl (fun r2 M2 h2 => ?_)
              obtain ⟨hr2, hs2⟩ := h2
              rw [hF] at hr2
              refine k_goto C 74 dX10_meaning_70 (by decide) ?_
              refine k_iadd C 75 dX10_meaning_74 rfl ?_
              refine k_istore_n C 76 [(2, .int ((pMean (mF M) n1 p w i) + r2)), (4, .int 1), (0, .ref (ga g 91)), (1, .int w), (3, .int (nI i))] rfl (by decide) rfl dX10_meaning_75 rfl ?_
              refine k_iinc C 79 (nI (i + 1)) 4 [(3, .int (nI (i + 1))), (2, .int ((pMean (mF M) n1 p w i) + r2)), (4, .int 1), (0, .ref (ga g 91)), (1, .int w)] rfl (iinc_p i) (by decide) rfl dX10_meaning_76 rfl ?_
              refine k_goto C 20 dX10_meaning_79 (by decide) ?_
              refine k_sub [(0, .ref (ga g 91)), (1, .int w), (2, .int ((pMean (mF M) n1 p w i) + r2)), (3, .int (nI (i + 1)))] [3, 4, 1, 0] rfl ?_
              refine k_all (M' := M2) (lo' := [(0, .ref (ga g 91)), (1, .int w), (2, .int (pMean (mF M) n1 p w (i + 1))), (3, .int (nI (i + 1)))]) (st' := []) (by rfl) (by rw [pMean_y (by rw [d35, decide_eq_true (show mF M i 4 = w from d49), Bool.or_true]; rfl), hr2]) rfl ?_
              exact ih (i + 1, M2) (show ((i + 1) ≤ n) ∧ (∀ q, q ≠ 101 → q ≠ 102 → M2 q = M q) from by exact ⟨by omega, fun q h1 h2 => (hs2 q h1 h2).trans (hA q h1 h2)⟩) (by show n - (i + 1) < n - i; omega)
  · skip
    exact (bz d6 hw).elim
set_option maxHeartbeats 4000000 in
set_option maxRecDepth 20000 in
theorem qX10_isSo (l : Launch) (g : GT) (M : Mem) {n : Nat} (hn : M 92 2 = nI n) (h12 : n ≤ 12) {s : Nat} (hs : s < 4) {z : Nat} (hz : M 97 s = nI z) (h24 : z ≤ 24)  : CtrE l g yX10_isSo cX10_isSo 5 (some .boolean) 2 [.ref (ga g 91), .int (nI s)] M (b2i (decide (tlS (fun k => M 98 (24 * s + k)) z (mF M) n = some z))) M := by
  refine ctrI_of (by decide +kernel) (Nat.le_of_ble_eq_true rfl) ?_
  intro pP eE RR sS mI aG bB mE cD C
  refine k_lo (lo' := [(0, .ref (ga g 91)), (1, .int (nI s))]) rfl ?_
  refine k_iconst C 1 (v := 0) (by decide) dX10_isSo_0 rfl ?_
  refine k_istore_n C 2 [(2, .int 0), (0, .ref (ga g 91)), (1, .int (nI s))] rfl (by decide) rfl dX10_isSo_1 rfl ?_
  refine k_iconst C 3 (v := 1) (by decide) dX10_isSo_2 rfl ?_
  refine k_istore_n C 4 [(3, .int 1), (2, .int 0), (0, .ref (ga g 91)), (1, .int (nI s))] rfl (by decide) rfl dX10_isSo_3 rfl ?_
  refine k_iconst C 5 (v := 0) (by decide) dX10_isSo_4 rfl ?_
  refine k_istore C 7 [(4, .int 0), (3, .int 1), (2, .int 0), (0, .ref (ga g 91)), (1, .int (nI s))]  (by decide) rfl dX10_isSo_5 rfl ?_
  refine k_sub [(0, .ref (ga g 91)), (1, .int (nI s)), (2, .int 0), (3, .int 1), (4, .int 0)] [3, 4, 2, 1, 0] rfl ?_
  refine k_all (M' := M) (lo' := [(0, .ref (ga g 91)), (1, .int (nI s)), (2, .int (nI 0)), (3, .int (b2i true)), (4, .int (nI 0))]) (st' := []) (by rfl) (by rfl) rfl ?_
  refine k_loop (σ := Nat × Nat × Bool) (fun (v : Nat × Nat × Bool) => match v with | (f, c, b) => (f ≤ n) ∧ (c ≤ f) ∧ (b = true → tlS (fun k => M 98 (24 * s + k)) z (mF M) f = some c) ∧ (b = false → tlS (fun k => M 98 (24 * s + k)) z (mF M) f = none)) (fun (v : Nat × Nat × Bool) => match v with | (f, c, b) => n - f) (fun (v : Nat × Nat × Bool) => match v with | (f, c, b) => M) (fun (v : Nat × Nat × Bool) => match v with | (f, c, b) => [(0, .ref (ga g 91)), (1, .int (nI s)), (2, .int (nI c)), (3, .int (b2i b)), (4, .int (nI f))]) (0, 0, true) (show (0 ≤ n) ∧ (0 ≤ 0) ∧ (true = true → tlS (fun k => M 98 (24 * s + k)) z (mF M) 0 = some 0) ∧ (true = false → tlS (fun k => M 98 (24 * s + k)) z (mF M) 0 = none) from by exact ⟨Nat.zero_le _, Nat.le_refl _, fun _ => rfl, fun q => absurd q (by decide)⟩) ?_
  rintro ⟨f, c, b⟩ hI ih
  have hI : (f ≤ n) ∧ (c ≤ f) ∧ (b = true → tlS (fun k => M 98 (24 * s + k)) z (mF M) f = some c) ∧ (b = false → tlS (fun k => M 98 (24 * s + k)) z (mF M) f = none) := hI
  obtain ⟨hf, hc, hT, hF⟩ := hI
  show KW pP l eE RR sS mI aG bB mE cD g 5 _ (M) 7 [(0, .ref (ga g 91)), (1, .int (nI s)), (2, .int (nI c)), (3, .int (b2i b)), (4, .int (nI f))] []
  refine k_iload C 9 4  rfl dX10_isSo_7 rfl ?_
  refine k_aload_n C 10 0 rfl rfl dX10_isSo_9 rfl ?_
  refine k_get C 13 flX10_9 91 (by decide) (v := .ref (ga g 92)) (ce_91 g _) rfl dX10_isSo_10 rfl ?_
  refine k_iconst C 14 (v := 2) (by decide) dX10_isSo_13 rfl ?_
  refine k_iald C 15 92 2 (by decide) (ce_92 g) (by decide) rfl (by omega) dX10_isSo_14 rfl ?_
  refine k_teq (y := nI n) hn ?_
  refine k_icmp_ge C 77 18 dX10_isSo_15 (by decide) rfl (fun c15 => ?_) (fun d15 => ?_)
  · skip
    have c15 := (nI_leI (by omega) (by omega)).mp (show nI n ≤ nI f from c15)
    refine k_iload_n C 78 3 rfl rfl dX10_isSo_77 rfl ?_
    refine k_if_eqB C 95 81 dX10_isSo_78 (by decide) rfl (fun c78 => ?_) (fun d78 => ?_)
    · skip
      refine k_iconst C 96 (v := 0) (by decide) dX10_isSo_95 rfl ?_
      refine k_ret C rfl dX10_isSo_96 ?_
      have e : f = n := by omega
      subst e
      exact ⟨b2i_neg (decide_eq_false (by rw [hF c78]; simp)), rfl⟩
    · skip
      refine k_iload_n C 82 2 rfl rfl dX10_isSo_81 rfl ?_
      refine k_aload_n C 83 0 rfl rfl dX10_isSo_82 rfl ?_
      refine k_get C 86 flX10_25 91 (by decide) (v := .ref (ga g 97)) (ce_91 g _) rfl dX10_isSo_83 rfl ?_
      refine k_iload_n C 87 1 rfl rfl dX10_isSo_86 rfl ?_
      refine k_iald C 88 97 s (by decide) (ce_97 g) (by decide) rfl (by omega) dX10_isSo_87 rfl ?_
      refine k_teq (y := nI z) hz ?_
      refine k_icmp_ne C 95 91 dX10_isSo_88 (by decide) rfl (fun c88 => ?_) (fun d88 => ?_)
      · skip
        have c88 := mt (nI_eq (by omega) (by omega)).mpr (show ¬ (nI c = nI z) from c88)
        refine k_iconst C 96 (v := 0) (by decide) dX10_isSo_95 rfl ?_
        refine k_ret C rfl dX10_isSo_96 ?_
        have e : f = n := by omega
        subst e
        exact ⟨b2i_neg (decide_eq_false (by rw [hT d78]; intro q; exact c88 (Option.some.inj q))), rfl⟩
      · skip
        have d88 := (nI_eq (by omega) (by omega)).mp (show nI c = nI z from d88)
        refine k_iconst C 92 (v := 1) (by decide) dX10_isSo_91 rfl ?_
        refine k_goto C 96 dX10_isSo_92 (by decide) ?_
        refine k_ret C rfl dX10_isSo_96 ?_
        have e : f = n := by omega
        subst e
        exact ⟨b2i_pos (decide_eq_true (by rw [hT d78, d88])), rfl⟩
  · skip
    have d15 := mt (nI_leI (by omega) (by omega)).mpr (show ¬ (nI n ≤ nI f) from d15)
    refine k_aload_n C 19 0 rfl rfl dX10_isSo_18 rfl ?_
    refine k_iload C 21 4  rfl dX10_isSo_19 rfl ?_
    refine k_callVE C 24 (As := [.int (nI f)]) (st := []) 91 (by decide) (ce_91 g _) rfl rfl mwX10_62 vlX10_isSeen (qX10_isSeen l g M (f := f) (by omega)) mlX10_isSeen (by decide) (by decide) rfl rfl (Nat.le_of_ble_eq_true rfl) dX10_isSo_21 rfl ?_
    refine k_if_eqB C 71 27 dX10_isSo_24 (by decide) rfl (fun c24 => ?_) (fun d24 => ?_)
    · skip
      refine k_iinc C 74 (nI (f + 1)) 4 [(4, .int (nI (f + 1))), (0, .ref (ga g 91)), (1, .int (nI s)), (2, .int (nI c)), (3, .int (b2i b))] rfl (iinc_p f) (by decide) rfl dX10_isSo_71 rfl ?_
      refine k_goto C 7 dX10_isSo_74 (by decide) ?_
      refine k_sub [(0, .ref (ga g 91)), (1, .int (nI s)), (2, .int (nI c)), (3, .int (b2i b)), (4, .int (nI (f + 1)))] [1, 2, 3, 4, 0] rfl ?_
      refine k_all (M' := M) (lo' := [(0, .ref (ga g 91)), (1, .int (nI s)), (2, .int (nI c)), (3, .int (b2i b)), (4, .int (nI (f + 1)))]) (st' := []) (by rfl) (by rfl) rfl ?_
      exact ih (f + 1, c, b) (show ((f + 1) ≤ n) ∧ (c ≤ (f + 1)) ∧ (b = true → tlS (fun k => M 98 (24 * s + k)) z (mF M) (f + 1) = some c) ∧ (b = false → tlS (fun k => M 98 (24 * s + k)) z (mF M) (f + 1) = none) from by exact ⟨by omega, by omega, fun q => by rw [tlS_skip (of_decide_eq_false c24)]; exact hT q, fun q => by rw [tlS_skip (of_decide_eq_false c24)]; exact hF q⟩) (by show n - (f + 1) < n - f; omega)
    · skip
      refine k_iload_n C 28 3 rfl rfl dX10_isSo_27 rfl ?_
      refine k_if_eqB C 66 31 dX10_isSo_28 (by decide) rfl (fun c28 => ?_) (fun d28 => ?_)
      · skip
        refine k_iconst C 67 (v := 0) (by decide) dX10_isSo_66 rfl ?_
        refine k_istore_n C 68 [(3, .int 0), (0, .ref (ga g 91)), (1, .int (nI s)), (2, .int (nI c)), (4, .int (nI f))] rfl (by decide) rfl dX10_isSo_67 rfl ?_
        refine k_iinc C 71 (nI (c + 1)) 3 [(2, .int (nI (c + 1))), (3, .int 0), (0, .ref (ga g 91)), (1, .int (nI s)), (4, .int (nI f))] rfl (iinc_p c) (by decide) rfl dX10_isSo_68 rfl ?_
        refine k_iinc C 74 (nI (f + 1)) 4 [(4, .int (nI (f + 1))), (2, .int (nI (c + 1))), (3, .int 0), (0, .ref (ga g 91)), (1, .int (nI s))] rfl (iinc_p f) (by decide) rfl dX10_isSo_71 rfl ?_
        refine k_goto C 7 dX10_isSo_74 (by decide) ?_
        refine k_sub [(0, .ref (ga g 91)), (1, .int (nI s)), (2, .int (nI (c + 1))), (3, .int 0), (4, .int (nI (f + 1)))] [3, 4, 1, 2, 0] rfl ?_
        refine k_all (M' := M) (lo' := [(0, .ref (ga g 91)), (1, .int (nI s)), (2, .int (nI (c + 1))), (3, .int (b2i false)), (4, .int (nI (f + 1)))]) (st' := []) (by rfl) (by rfl) rfl ?_
        exact ih (f + 1, c + 1, false) (show ((f + 1) ≤ n) ∧ ((c + 1) ≤ (f + 1)) ∧ (false = true → tlS (fun k => M 98 (24 * s + k)) z (mF M) (f + 1) = some (c + 1)) ∧ (false = false → tlS (fun k => M 98 (24 * s + k)) z (mF M) (f + 1) = none) from by exact ⟨by omega, by omega, fun q => absurd q (by decide), fun _ => tlS_nn (hF c28)⟩) (by show n - (f + 1) < n - f; omega)
      · skip
        refine k_iload_n C 32 2 rfl rfl dX10_isSo_31 rfl ?_
        refine k_aload_n C 33 0 rfl rfl dX10_isSo_32 rfl ?_
        refine k_get C 36 flX10_25 91 (by decide) (v := .ref (ga g 97)) (ce_91 g _) rfl dX10_isSo_33 rfl ?_
        refine k_iload_n C 37 1 rfl rfl dX10_isSo_36 rfl ?_
        refine k_iald C 38 97 s (by decide) (ce_97 g) (by decide) rfl (by omega) dX10_isSo_37 rfl ?_
        refine k_teq (y := nI z) hz ?_
        refine k_icmp_ge C 66 41 dX10_isSo_38 (by decide) rfl (fun c38 => ?_) (fun d38 => ?_)
        · skip
          have c38 := (nI_leI (by omega) (by omega)).mp (show nI z ≤ nI c from c38)
          refine k_iconst C 67 (v := 0) (by decide) dX10_isSo_66 rfl ?_
          refine k_istore_n C 68 [(3, .int 0), (0, .ref (ga g 91)), (1, .int (nI s)), (2, .int (nI c)), (4, .int (nI f))] rfl (by decide) rfl dX10_isSo_67 rfl ?_
          refine k_iinc C 71 (nI (c + 1)) 3 [(2, .int (nI (c + 1))), (3, .int 0), (0, .ref (ga g 91)), (1, .int (nI s)), (4, .int (nI f))] rfl (iinc_p c) (by decide) rfl dX10_isSo_68 rfl ?_
          refine k_iinc C 74 (nI (f + 1)) 4 [(4, .int (nI (f + 1))), (2, .int (nI (c + 1))), (3, .int 0), (0, .ref (ga g 91)), (1, .int (nI s))] rfl (iinc_p f) (by decide) rfl dX10_isSo_71 rfl ?_
          refine k_goto C 7 dX10_isSo_74 (by decide) ?_
          refine k_sub [(0, .ref (ga g 91)), (1, .int (nI s)), (2, .int (nI (c + 1))), (3, .int 0), (4, .int (nI (f + 1)))] [3, 4, 1, 2, 0] rfl ?_
          refine k_all (M' := M) (lo' := [(0, .ref (ga g 91)), (1, .int (nI s)), (2, .int (nI (c + 1))), (3, .int (b2i false)), (4, .int (nI (f + 1)))]) (st' := []) (by rfl) (by rfl) rfl ?_
          exact ih (f + 1, c + 1, false) (show ((f + 1) ≤ n) ∧ ((c + 1) ≤ (f + 1)) ∧ (false = true → tlS (fun k => M 98 (24 * s + k)) z (mF M) (f + 1) = some (c + 1)) ∧ (false = false → tlS (fun k => M 98 (24 * s + k)) z (mF M) (f + 1) = none) from by exact ⟨by omega, by omega, fun q => absurd q (by decide), fun _ => tlS_not (of_decide_eq_true d24) (hT d28) (fun q => absurd q.1 (by omega))⟩) (by show n - (f + 1) < n - f; omega)
        · skip
          have d38 := mt (nI_leI (by omega) (by omega)).mpr (show ¬ (nI z ≤ nI c) from d38)
          refine k_aload_n C 42 0 rfl rfl dX10_isSo_41 rfl ?_
          refine k_get C 45 flX10_28 91 (by decide) (v := .ref (ga g 98)) (ce_91 g _) rfl dX10_isSo_42 rfl ?_
          refine k_bipush C 47 (v := 24) (by decide) dX10_isSo_45 rfl ?_
          refine k_iload_n C 48 1 rfl rfl dX10_isSo_47 rfl ?_
          refine k_imul C 49 dX10_isSo_48 rfl ?_
          refine k_teq (pk_mul 24 s) ?_
          refine k_iload_n C 50 2 rfl rfl dX10_isSo_49 rfl ?_
          refine k_iadd C 51 dX10_isSo_50 rfl ?_
          refine k_teq (nI_add (24 * s) c) ?_
          refine k_iald C 52 98 ((24 * s) + c) (by decide) (ce_98 g) (by decide) rfl (by omega) dX10_isSo_51 rfl ?_
          refine k_aload_n C 53 0 rfl rfl dX10_isSo_52 rfl ?_
          refine k_iload C 55 4  rfl dX10_isSo_53 rfl ?_
          refine k_iconst C 56 (v := 2) (by decide) dX10_isSo_55 rfl ?_
          refine k_callVE C 59 (As := [.int (nI f), .int 2]) (st := [.int (M 98 ((24 * s) + c))]) 91 (by decide) (ce_91 g _) rfl rfl mwX10_58 vlX10_of (qX10_of l g M (f := f) (w := 2) (by omega) (by omega)) mlX10_of (by decide) (by decide) rfl rfl (Nat.le_of_ble_eq_true rfl) dX10_isSo_56 rfl ?_
          refine k_icmp_ne C 66 62 dX10_isSo_59 (by decide) rfl (fun c59 => ?_) (fun d59 => ?_)
          · skip
            refine k_iconst C 67 (v := 0) (by decide) dX10_isSo_66 rfl ?_
            refine k_istore_n C 68 [(3, .int 0), (0, .ref (ga g 91)), (1, .int (nI s)), (2, .int (nI c)), (4, .int (nI f))] rfl (by decide) rfl dX10_isSo_67 rfl ?_
            refine k_iinc C 71 (nI (c + 1)) 3 [(2, .int (nI (c + 1))), (3, .int 0), (0, .ref (ga g 91)), (1, .int (nI s)), (4, .int (nI f))] rfl (iinc_p c) (by decide) rfl dX10_isSo_68 rfl ?_
            refine k_iinc C 74 (nI (f + 1)) 4 [(4, .int (nI (f + 1))), (2, .int (nI (c + 1))), (3, .int 0), (0, .ref (ga g 91)), (1, .int (nI s))] rfl (iinc_p f) (by decide) rfl dX10_isSo_71 rfl ?_
            refine k_goto C 7 dX10_isSo_74 (by decide) ?_
            refine k_sub [(0, .ref (ga g 91)), (1, .int (nI s)), (2, .int (nI (c + 1))), (3, .int 0), (4, .int (nI (f + 1)))] [3, 4, 1, 2, 0] rfl ?_
            refine k_all (M' := M) (lo' := [(0, .ref (ga g 91)), (1, .int (nI s)), (2, .int (nI (c + 1))), (3, .int (b2i false)), (4, .int (nI (f + 1)))]) (st' := []) (by rfl) (by rfl) rfl ?_
            exact ih (f + 1, c + 1, false) (show ((f + 1) ≤ n) ∧ ((c + 1) ≤ (f + 1)) ∧ (false = true → tlS (fun k => M 98 (24 * s + k)) z (mF M) (f + 1) = some (c + 1)) ∧ (false = false → tlS (fun k => M 98 (24 * s + k)) z (mF M) (f + 1) = none) from by exact ⟨by omega, by omega, fun q => absurd q (by decide), fun _ => tlS_not (of_decide_eq_true d24) (hT d28) (fun q => c59 q.2)⟩) (by show n - (f + 1) < n - f; omega)
          · skip
            refine k_iconst C 63 (v := 1) (by decide) dX10_isSo_62 rfl ?_
            refine k_goto C 67 dX10_isSo_63 (by decide) ?_
            refine k_istore_n C 68 [(3, .int 1), (0, .ref (ga g 91)), (1, .int (nI s)), (2, .int (nI c)), (4, .int (nI f))] rfl (by decide) rfl dX10_isSo_67 rfl ?_
            refine k_iinc C 71 (nI (c + 1)) 3 [(2, .int (nI (c + 1))), (3, .int 1), (0, .ref (ga g 91)), (1, .int (nI s)), (4, .int (nI f))] rfl (iinc_p c) (by decide) rfl dX10_isSo_68 rfl ?_
            refine k_iinc C 74 (nI (f + 1)) 4 [(4, .int (nI (f + 1))), (2, .int (nI (c + 1))), (3, .int 1), (0, .ref (ga g 91)), (1, .int (nI s))] rfl (iinc_p f) (by decide) rfl dX10_isSo_71 rfl ?_
            refine k_goto C 7 dX10_isSo_74 (by decide) ?_
            refine k_sub [(0, .ref (ga g 91)), (1, .int (nI s)), (2, .int (nI (c + 1))), (3, .int 1), (4, .int (nI (f + 1)))] [3, 4, 1, 2, 0] rfl ?_
            refine k_all (M' := M) (lo' := [(0, .ref (ga g 91)), (1, .int (nI s)), (2, .int (nI (c + 1))), (3, .int (b2i true)), (4, .int (nI (f + 1)))]) (st' := []) (by rfl) (by rfl) rfl ?_
            exact ih (f + 1, c + 1, true) (show ((f + 1) ≤ n) ∧ ((c + 1) ≤ (f + 1)) ∧ (true = true → tlS (fun k => M 98 (24 * s + k)) z (mF M) (f + 1) = some (c + 1)) ∧ (true = false → tlS (fun k => M 98 (24 * s + k)) z (mF M) (f + 1) = none) from by exact ⟨by omega, by omega, fun _ => tlS_yes (of_decide_eq_true d24) (hT d28) (by omega) d59, fun q => absurd q (by decide)⟩) (by show n - (f + 1) < n - f; omega)
set_option maxHeartbeats 4000000 in
set_option maxRecDepth 20000 in
theorem qX10_fits_f (l : Launch) (g : GT) (M : Mem) (s : Int32) (hf : (decide (0 ≤ s) && decide (s < 4)) = false) : CtrE l g yX10_fits cX10_fits 4 (some .int) 3 [.ref (ga g 91), .int s] M (-1000000001) (mu M 95 1 (M 95 1 + 1)) := by
  refine ctrI_of (by decide +kernel) (Nat.le_of_ble_eq_true rfl) ?_
  intro pP eE RR sS mI aG bB mE cD C
  refine k_lo (lo' := [(0, .ref (ga g 91)), (1, .int s)]) rfl ?_
  refine k_aload_n C 1 0 rfl rfl dX10_fits_0 rfl ?_
  refine k_iload_n C 2 1 rfl rfl dX10_fits_1 rfl ?_
  refine k_callVE C 5 (As := [.int s]) (st := []) 91 (by decide) (ce_91 g _) rfl rfl mwX10_221 vlX10_notThere (qX10_notThere_f l g M s hf) mlX10_notThere (by decide) (by decide) rfl rfl (Nat.le_of_ble_eq_true rfl) dX10_fits_2 rfl ?_
  refine k_istore_n C 6 [(2, .int (-1000000001)), (0, .ref (ga g 91)), (1, .int s)] rfl (by decide) rfl dX10_fits_5 rfl ?_
  refine k_iload_n C 7 0 rfl rfl dX10_fits_6 rfl ?_
  refine k_if_eq C 16 10 dX10_fits_7 (by decide) rfl (fun c7 => ?_) (fun d7 => ?_)
  · skip
    exact absurd c7 (by decide)
  · skip
    refine k_aload_n C 11 1 rfl rfl dX10_fits_10 rfl ?_
    refine k_iload_n C 12 0 rfl rfl dX10_fits_11 rfl ?_
    refine k_callVE C 15 (As := [.int (-1000000001)]) (st := []) 91 (by decide) (ce_91 g _) rfl rfl mwX10_95 vlX10_error (qX10_error l g M (-1000000001) (k := 1) (by decide) (by decide)) mlX10_error (by decide) (by decide) rfl rfl (Nat.le_of_ble_eq_true rfl) dX10_fits_12 rfl ?_
    refine k_ret C rfl dX10_fits_15 ?_
    exact ⟨rfl, rfl⟩
set_option maxHeartbeats 4000000 in
set_option maxRecDepth 20000 in
theorem qX10_fits_0 (l : Launch) (g : GT) (M : Mem) {s : Nat} (hs : s < 4) (h : M 96 s = 0) : CtrE l g yX10_fits cX10_fits 4 (some .int) 3 [.ref (ga g 91), .int (nI s)] M (-1000000002) (mu M 95 2 (M 95 2 + 1)) := by
  refine ctrI_of (by decide +kernel) (Nat.le_of_ble_eq_true rfl) ?_
  intro pP eE RR sS mI aG bB mE cD C
  refine k_lo (lo' := [(0, .ref (ga g 91)), (1, .int (nI s))]) rfl ?_
  refine k_aload_n C 1 0 rfl rfl dX10_fits_0 rfl ?_
  refine k_iload_n C 2 1 rfl rfl dX10_fits_1 rfl ?_
  refine k_callVE C 5 (As := [.int (nI s)]) (st := []) 91 (by decide) (ce_91 g _) rfl rfl mwX10_221 vlX10_notThere (qX10_notThere_0 l g M (s := s) hs h) mlX10_notThere (by decide) (by decide) rfl rfl (Nat.le_of_ble_eq_true rfl) dX10_fits_2 rfl ?_
  refine k_istore_n C 6 [(2, .int (-1000000002)), (0, .ref (ga g 91)), (1, .int (nI s))] rfl (by decide) rfl dX10_fits_5 rfl ?_
  refine k_iload_n C 7 0 rfl rfl dX10_fits_6 rfl ?_
  refine k_if_eq C 16 10 dX10_fits_7 (by decide) rfl (fun c7 => ?_) (fun d7 => ?_)
  · skip
    exact absurd c7 (by decide)
  · skip
    refine k_aload_n C 11 1 rfl rfl dX10_fits_10 rfl ?_
    refine k_iload_n C 12 0 rfl rfl dX10_fits_11 rfl ?_
    refine k_callVE C 15 (As := [.int (-1000000002)]) (st := []) 91 (by decide) (ce_91 g _) rfl rfl mwX10_95 vlX10_error (qX10_error l g M (-1000000002) (k := 2) (by decide) (by decide)) mlX10_error (by decide) (by decide) rfl rfl (Nat.le_of_ble_eq_true rfl) dX10_fits_12 rfl ?_
    refine k_ret C rfl dX10_fits_15 ?_
    exact ⟨rfl, rfl⟩
set_option maxHeartbeats 4000000 in
set_option maxRecDepth 20000 in
theorem qX10_fits_t (l : Launch) (g : GT) (M : Mem) {n : Nat} (hn : M 92 2 = nI n) (h12 : n ≤ 12) {s : Nat} (hs : s < 4) (h : ¬ M 96 s = 0) {z : Nat} (hz : M 97 s = nI z) (h24 : z ≤ 24) (o : Option Nat) (ho : pFit (fun i => decide (tlS (fun k => M 98 (24 * s + k)) z (mF (gN n (M 92 3) (mrow M 94 (cpA 416 (M 92) (M 94))) i)) n = some z)) 61 0 = o) : CtrI l g yX10_fits cX10_fits 4 (some .int) 5 [.ref (ga g 91), .int (nI s)] M (fun r M2 => (∀ q, q < 416 → M2 92 q = M 92 q) ∧ (∀ a, a ≠ 92 → a ≠ 94 → a ≠ 95 → M2 a = M a) ∧ ((∃ i, o = some i ∧ r = nI i ∧ M2 95 = M 95) ∨ (o = none ∧ r = (-1000000002) ∧ M2 95 = mu M 95 2 (M 95 2 + 1) 95))) := by
  refine ctrI_of (by decide +kernel) (Nat.le_of_ble_eq_true rfl) ?_
  intro pP eE RR sS mI aG bB mE cD C
  refine k_lo (lo' := [(0, .ref (ga g 91)), (1, .int (nI s))]) rfl ?_
  refine k_aload_n C 1 0 rfl rfl dX10_fits_0 rfl ?_
  refine k_iload_n C 2 1 rfl rfl dX10_fits_1 rfl ?_
  refine k_callVE C 5 (As := [.int (nI s)]) (st := []) 91 (by decide) (ce_91 g _) rfl rfl mwX10_221 vlX10_notThere (qX10_notThere_t l g M (s := s) hs h) mlX10_notThere (by decide) (by decide) rfl rfl (Nat.le_of_ble_eq_true rfl) dX10_fits_2 rfl ?_
  refine k_istore_n C 6 [(2, .int 0), (0, .ref (ga g 91)), (1, .int (nI s))] rfl (by decide) rfl dX10_fits_5 rfl ?_
  refine k_iload_n C 7 0 rfl rfl dX10_fits_6 rfl ?_
  refine k_if_eq C 16 10 dX10_fits_7 (by decide) rfl (fun c7 => ?_) (fun d7 => ?_)
  · skip
    refine k_aload_n C 17 1 rfl rfl dX10_fits_16 rfl ?_
    refine k_callVU C 20 (As := []) (st := []) 91 (by decide) (ce_91 g _) rfl rfl mwX10_203 vlX10_thinks (qX10_thinks l g M) mlX10_thinks (by decide) (by decide) rfl rfl (Nat.le_of_ble_eq_true rfl) dX10_fits_17 rfl ?_
    refine k_iconst C 21 (v := 0) (by decide) dX10_fits_20 rfl ?_
    refine k_istore_n C 22 [(3, .int 0), (2, .int 0), (0, .ref (ga g 91)), (1, .int (nI s))] rfl (by decide) rfl dX10_fits_21 rfl ?_
    refine k_sub [(0, .ref (ga g 91)), (1, .int (nI s)), (3, .int 0)] [2, 3, 0] rfl ?_
    refine k_all (M' := gN n (M 92 3) (mrow M 94 (cpA 416 (M 92) (M 94))) 0) (lo' := [(0, .ref (ga g 91)), (1, .int (nI s)), (3, .int (nI 0))]) (st' := []) (by rfl) (by rfl) rfl ?_
    refine k_loop (σ := Nat) (fun (ii : Nat) => (ii ≤ 61) ∧ (pFit (fun i => decide (tlS (fun k => M 98 (24 * s + k)) z (mF (gN n (M 92 3) (mrow M 94 (cpA 416 (M 92) (M 94))) i)) n = some z)) 61 0 = pFit (fun i => decide (tlS (fun k => M 98 (24 * s + k)) z (mF (gN n (M 92 3) (mrow M 94 (cpA 416 (M 92) (M 94))) i)) n = some z)) (61 - ii) ii)) (fun (ii : Nat) => 61 - ii) (fun (ii : Nat) => gN n (M 92 3) (mrow M 94 (cpA 416 (M 92) (M 94))) ii) (fun (ii : Nat) => [(0, .ref (ga g 91)), (1, .int (nI s)), (3, .int (nI ii))]) 0 (show (0 ≤ 61) ∧ (pFit (fun i => decide (tlS (fun k => M 98 (24 * s + k)) z (mF (gN n (M 92 3) (mrow M 94 (cpA 416 (M 92) (M 94))) i)) n = some z)) 61 0 = pFit (fun i => decide (tlS (fun k => M 98 (24 * s + k)) z (mF (gN n (M 92 3) (mrow M 94 (cpA 416 (M 92) (M 94))) i)) n = some z)) (61 - 0) 0) from by exact ⟨Nat.zero_le _, rfl⟩) ?_
    rintro ii hI ih
    have hI : (ii ≤ 61) ∧ (pFit (fun i => decide (tlS (fun k => M 98 (24 * s + k)) z (mF (gN n (M 92 3) (mrow M 94 (cpA 416 (M 92) (M 94))) i)) n = some z)) 61 0 = pFit (fun i => decide (tlS (fun k => M 98 (24 * s + k)) z (mF (gN n (M 92 3) (mrow M 94 (cpA 416 (M 92) (M 94))) i)) n = some z)) (61 - ii) ii) := hI
    obtain ⟨hi, he⟩ := hI
    show KW pP l eE RR sS mI aG bB mE cD g 4 _ (gN n (M 92 3) (mrow M 94 (cpA 416 (M 92) (M 94))) ii) 22 [(0, .ref (ga g 91)), (1, .int (nI s)), (3, .int (nI ii))] []
    refine k_iload_n C 23 2 rfl rfl dX10_fits_22 rfl ?_
    refine k_bipush C 25 (v := 60) (by decide) dX10_fits_23 rfl ?_
    refine k_icmp_gt C 46 28 dX10_fits_25 (by decide) rfl (fun c25 => ?_) (fun d25 => ?_)
    · skip
      have c25 := (nI_ltI (by omega) (by omega)).mp (show nI 60 < nI ii from c25)
      refine k_aload_n C 47 0 rfl rfl dX10_fits_46 rfl ?_
      refine k_callVU C 50 (As := []) (st := []) 91 (by decide) (ce_91 g _) rfl rfl mwX10_206 vlX10_putsBack (qX10_putsBack l g (gN n (M 92 3) (mrow M 94 (cpA 416 (M 92) (M 94))) ii)) mlX10_putsBack (by decide) (by decide) rfl rfl (Nat.le_of_ble_eq_true rfl) dX10_fits_47 rfl ?_
      refine k_iload_n C 51 2 rfl rfl dX10_fits_50 rfl ?_
      refine k_bipush C 53 (v := 60) (by decide) dX10_fits_51 rfl ?_
      refine k_icmp_le C 65 56 dX10_fits_53 (by decide) rfl (fun c53 => ?_) (fun d53 => ?_)
      · skip
        have c53 := (nI_leI (by omega) (by omega)).mp (show nI ii ≤ nI 60 from c53)
        exact absurd c53 (by omega)
      · skip
        have d53 := mt (nI_leI (by omega) (by omega)).mpr (show ¬ (nI ii ≤ nI 60) from d53)
        refine k_aload_n C 57 0 rfl rfl dX10_fits_56 rfl ?_
        refine k_ldc C 59 cwX10_227 dX10_fits_57 rfl ?_
        refine k_callVE C 62 (As := [.int (-1000000002)]) (st := []) 91 (by decide) (ce_91 g _) rfl rfl mwX10_95 vlX10_error (qX10_error l g (mrow (gN n (M 92 3) (mrow M 94 (cpA 416 (M 92) (M 94))) ii) 92 (cpA 416 ((gN n (M 92 3) (mrow M 94 (cpA 416 (M 92) (M 94))) ii) 94) ((gN n (M 92 3) (mrow M 94 (cpA 416 (M 92) (M 94))) ii) 92))) (-1000000002) (k := 2) (by decide) (by decide)) mlX10_error (by decide) (by decide) rfl rfl (Nat.le_of_ble_eq_true rfl) dX10_fits_59 rfl ?_
        refine k_goto C 66 dX10_fits_62 (by decide) ?_
        refine k_ret C rfl dX10_fits_66 ?_
        exact ⟨fun q hq => by rw [mu_n _ _ _ (by decide)]; exact fitsM_q q hq, fun a h1 h2 h3 => by rw [mu_n _ _ _ h3]; exact fitsM_a h1 h2, Or.inr ⟨by rw [← ho, he, pFit_end (by omega)], rfl, by rw [mu_r, mu_r, fitsM_a (a := 95) (by decide) (by decide)]⟩⟩
    · skip
      have d25 := mt (nI_ltI (by omega) (by omega)).mpr (show ¬ (nI 60 < nI ii) from d25)
      refine k_aload_n C 29 0 rfl rfl dX10_fits_28 rfl ?_
      refine k_iload_n C 30 1 rfl rfl dX10_fits_29 rfl ?_
      refine k_callVE C 33 (As := [.int (nI s)]) (st := []) 91 (by decide) (ce_91 g _) rfl rfl mwX10_224 vlX10_isSo (qX10_isSo l g (gN n (M 92 3) (mrow M 94 (cpA 416 (M 92) (M 94))) ii) (n := n) (by rw [gN_at (by omega) (by decide), mrow_n _ _ (by decide)]; exact hn) h12 (s := s) hs (z := z) (by rw [gN_o (by decide), mrow_n _ _ (by decide)]; exact hz) h24) mlX10_isSo (by decide) (by decide) rfl rfl (Nat.le_of_ble_eq_true rfl) dX10_fits_30 rfl ?_
      refine k_teq (y := b2i (decide (tlS (fun k => M 98 (24 * s + k)) z (mF (gN n (M 92 3) (mrow M 94 (cpA 416 (M 92) (M 94))) ii)) n = some z))) (by rw [gN_o (by decide), mrow_n _ _ (by decide)]) ?_
      refine k_if_neB C 46 36 dX10_fits_33 (by decide) rfl (fun c33 => ?_) (fun d33 => ?_)
      · skip
        refine k_aload_n C 47 0 rfl rfl dX10_fits_46 rfl ?_
        refine k_callVU C 50 (As := []) (st := []) 91 (by decide) (ce_91 g _) rfl rfl mwX10_206 vlX10_putsBack (qX10_putsBack l g (gN n (M 92 3) (mrow M 94 (cpA 416 (M 92) (M 94))) ii)) mlX10_putsBack (by decide) (by decide) rfl rfl (Nat.le_of_ble_eq_true rfl) dX10_fits_47 rfl ?_
        refine k_iload_n C 51 2 rfl rfl dX10_fits_50 rfl ?_
        refine k_bipush C 53 (v := 60) (by decide) dX10_fits_51 rfl ?_
        refine k_icmp_le C 65 56 dX10_fits_53 (by decide) rfl (fun c53 => ?_) (fun d53 => ?_)
        · skip
          have c53 := (nI_leI (by omega) (by omega)).mp (show nI ii ≤ nI 60 from c53)
          refine k_iload_n C 66 2 rfl rfl dX10_fits_65 rfl ?_
          refine k_ret C rfl dX10_fits_66 ?_
          exact ⟨fitsM_q, fun a h1 h2 _ => fitsM_a h1 h2, Or.inl ⟨ii, by rw [← ho, he, pFit_hit (by omega) c33], rfl, fitsM_a (by decide) (by decide)⟩⟩
        · skip
          have d53 := mt (nI_leI (by omega) (by omega)).mpr (show ¬ (nI ii ≤ nI 60) from d53)
          exact absurd d53 (by omega)
      · skip
        refine k_aload_n C 37 0 rfl rfl dX10_fits_36 rfl ?_
        refine k_callVU C 40 (As := []) (st := []) 91 (by decide) (ce_91 g _) rfl rfl mwX10_181 vlX10_goes (qX10_goesU l g (gN n (M 92 3) (mrow M 94 (cpA 416 (M 92) (M 94))) ii) (n := n) (by rw [gN_at (by omega) (by decide), mrow_n _ _ (by decide)]; exact hn) h12) mlX10_goes (by decide) (by decide) rfl rfl (Nat.le_of_ble_eq_true rfl) dX10_fits_37 rfl ?_
        refine k_iinc C 43 (nI (ii + 1)) 2 [(3, .int (nI (ii + 1))), (0, .ref (ga g 91)), (1, .int (nI s))] rfl (iinc_p ii) (by decide) rfl dX10_fits_40 rfl ?_
        refine k_goto C 22 dX10_fits_43 (by decide) ?_
        refine k_sub [(0, .ref (ga g 91)), (1, .int (nI s)), (3, .int (nI (ii + 1)))] [1, 2, 0] rfl ?_
        refine k_all (M' := gN n (M 92 3) (mrow M 94 (cpA 416 (M 92) (M 94))) (ii + 1)) (lo' := [(0, .ref (ga g 91)), (1, .int (nI s)), (3, .int (nI (ii + 1)))]) (st' := []) (by rw [gN_at (q := 3) (by omega) (by decide), mrow_n _ _ (show (92 : Nat) ≠ 94 by decide)]; rfl) (by rfl) rfl ?_
        exact ih (ii + 1) (show ((ii + 1) ≤ 61) ∧ (pFit (fun i => decide (tlS (fun k => M 98 (24 * s + k)) z (mF (gN n (M 92 3) (mrow M 94 (cpA 416 (M 92) (M 94))) i)) n = some z)) 61 0 = pFit (fun i => decide (tlS (fun k => M 98 (24 * s + k)) z (mF (gN n (M 92 3) (mrow M 94 (cpA 416 (M 92) (M 94))) i)) n = some z)) (61 - (ii + 1)) (ii + 1)) from by exact ⟨by omega, by rw [he, pFit_go (by omega) d33]⟩) (by show 61 - (ii + 1) < _; omega)
  · skip
    exact absurd d7 (by decide)
set_option maxHeartbeats 4000000 in
set_option maxRecDepth 20000 in
theorem qX10_judge_f (l : Launch) (g : GT) (M : Mem) (s : Int32) (hf : (decide (0 ≤ s) && decide (s < 4)) = false) : CtrE l g yX10_judge cX10_judge 4 (some .int) 3 [.ref (ga g 91), .int s] M (-1000000001) (mu M 95 1 (M 95 1 + 1)) := by
  refine ctrI_of (by decide +kernel) (Nat.le_of_ble_eq_true rfl) ?_
  intro pP eE RR sS mI aG bB mE cD C
  refine k_lo (lo' := [(0, .ref (ga g 91)), (1, .int s)]) rfl ?_
  refine k_aload_n C 1 0 rfl rfl dX10_judge_0 rfl ?_
  refine k_iload_n C 2 1 rfl rfl dX10_judge_1 rfl ?_
  refine k_callVE C 5 (As := [.int s]) (st := []) 91 (by decide) (ce_91 g _) rfl rfl mwX10_221 vlX10_notThere (qX10_notThere_f l g M s hf) mlX10_notThere (by decide) (by decide) rfl rfl (Nat.le_of_ble_eq_true rfl) dX10_judge_2 rfl ?_
  refine k_istore_n C 6 [(2, .int (-1000000001)), (0, .ref (ga g 91)), (1, .int s)] rfl (by decide) rfl dX10_judge_5 rfl ?_
  refine k_iload_n C 7 0 rfl rfl dX10_judge_6 rfl ?_
  refine k_if_eq C 16 10 dX10_judge_7 (by decide) rfl (fun c7 => ?_) (fun d7 => ?_)
  · skip
    exact absurd c7 (by decide)
  · skip
    refine k_aload_n C 11 1 rfl rfl dX10_judge_10 rfl ?_
    refine k_iload_n C 12 0 rfl rfl dX10_judge_11 rfl ?_
    refine k_callVE C 15 (As := [.int (-1000000001)]) (st := []) 91 (by decide) (ce_91 g _) rfl rfl mwX10_95 vlX10_error (qX10_error l g M (-1000000001) (k := 1) (by decide) (by decide)) mlX10_error (by decide) (by decide) rfl rfl (Nat.le_of_ble_eq_true rfl) dX10_judge_12 rfl ?_
    refine k_ret C rfl dX10_judge_15 ?_
    exact ⟨rfl, rfl⟩
set_option maxHeartbeats 4000000 in
set_option maxRecDepth 20000 in
theorem qX10_judge_0 (l : Launch) (g : GT) (M : Mem) {s : Nat} (hs : s < 4) (h : M 96 s = 0) : CtrE l g yX10_judge cX10_judge 4 (some .int) 3 [.ref (ga g 91), .int (nI s)] M (-1000000002) (mu M 95 2 (M 95 2 + 1)) := by
  refine ctrI_of (by decide +kernel) (Nat.le_of_ble_eq_true rfl) ?_
  intro pP eE RR sS mI aG bB mE cD C
  refine k_lo (lo' := [(0, .ref (ga g 91)), (1, .int (nI s))]) rfl ?_
  refine k_aload_n C 1 0 rfl rfl dX10_judge_0 rfl ?_
  refine k_iload_n C 2 1 rfl rfl dX10_judge_1 rfl ?_
  refine k_callVE C 5 (As := [.int (nI s)]) (st := []) 91 (by decide) (ce_91 g _) rfl rfl mwX10_221 vlX10_notThere (qX10_notThere_0 l g M (s := s) hs h) mlX10_notThere (by decide) (by decide) rfl rfl (Nat.le_of_ble_eq_true rfl) dX10_judge_2 rfl ?_
  refine k_istore_n C 6 [(2, .int (-1000000002)), (0, .ref (ga g 91)), (1, .int (nI s))] rfl (by decide) rfl dX10_judge_5 rfl ?_
  refine k_iload_n C 7 0 rfl rfl dX10_judge_6 rfl ?_
  refine k_if_eq C 16 10 dX10_judge_7 (by decide) rfl (fun c7 => ?_) (fun d7 => ?_)
  · skip
    exact absurd c7 (by decide)
  · skip
    refine k_aload_n C 11 1 rfl rfl dX10_judge_10 rfl ?_
    refine k_iload_n C 12 0 rfl rfl dX10_judge_11 rfl ?_
    refine k_callVE C 15 (As := [.int (-1000000002)]) (st := []) 91 (by decide) (ce_91 g _) rfl rfl mwX10_95 vlX10_error (qX10_error l g M (-1000000002) (k := 2) (by decide) (by decide)) mlX10_error (by decide) (by decide) rfl rfl (Nat.le_of_ble_eq_true rfl) dX10_judge_12 rfl ?_
    refine k_ret C rfl dX10_judge_15 ?_
    exact ⟨rfl, rfl⟩
set_option maxHeartbeats 4000000 in
set_option maxRecDepth 20000 in
theorem qX10_judge_t (l : Launch) (g : GT) (M : Mem) {n : Nat} (hn : M 92 2 = nI n) (h12 : n ≤ 12) {s : Nat} (hs : s < 4) (h : ¬ M 96 s = 0) {z : Nat} (hz : M 97 s = nI z) (h24 : z ≤ 24) {n1 : Nat} (p : Nat → Int32) (hL : mlawOk M 1 n1 p) : CtrI l g yX10_judge cX10_judge 4 (some .int) 4 [.ref (ga g 91), .int (nI s)] M (fun r M1 => r = nI (fstK (jdP (fun k => M 98 (24 * s + k)) (mF M) n1 p) (min z n) 0) ∧ ∀ q, q ≠ 101 → q ≠ 102 → M1 q = M q) := by
  refine ctrI_of (by decide +kernel) (Nat.le_of_ble_eq_true rfl) ?_
  intro pP eE RR sS mI aG bB mE cD C
  refine k_lo (lo' := [(0, .ref (ga g 91)), (1, .int (nI s))]) rfl ?_
  refine k_aload_n C 1 0 rfl rfl dX10_judge_0 rfl ?_
  refine k_iload_n C 2 1 rfl rfl dX10_judge_1 rfl ?_
  refine k_callVE C 5 (As := [.int (nI s)]) (st := []) 91 (by decide) (ce_91 g _) rfl rfl mwX10_221 vlX10_notThere (qX10_notThere_t l g M (s := s) hs h) mlX10_notThere (by decide) (by decide) rfl rfl (Nat.le_of_ble_eq_true rfl) dX10_judge_2 rfl ?_
  refine k_istore_n C 6 [(2, .int 0), (0, .ref (ga g 91)), (1, .int (nI s))] rfl (by decide) rfl dX10_judge_5 rfl ?_
  refine k_iload_n C 7 0 rfl rfl dX10_judge_6 rfl ?_
  refine k_if_eq C 16 10 dX10_judge_7 (by decide) rfl (fun c7 => ?_) (fun d7 => ?_)
  · skip
    refine k_iconst C 17 (v := 0) (by decide) dX10_judge_16 rfl ?_
    refine k_istore_n C 18 [(3, .int 0), (2, .int 0), (0, .ref (ga g 91)), (1, .int (nI s))] rfl (by decide) rfl dX10_judge_17 rfl ?_
    refine k_sub [(0, .ref (ga g 91)), (1, .int (nI s)), (3, .int 0)] [2, 3, 0] rfl ?_
    refine k_all (M' := M) (lo' := [(0, .ref (ga g 91)), (1, .int (nI s)), (3, .int (nI 0))]) (st' := []) (by rfl) (by rfl) rfl ?_
    refine k_loop (σ := Nat × Mem) (fun (v : Nat × Mem) => match v with | (kk, M1) => (kk ≤ min z n) ∧ (∀ q, q ≠ 101 → q ≠ 102 → M1 q = M q) ∧ (fstK (jdP (fun k => M 98 (24 * s + k)) (mF M) n1 p) (min z n) 0 = fstK (jdP (fun k => M 98 (24 * s + k)) (mF M) n1 p) (min z n - kk) kk)) (fun (v : Nat × Mem) => match v with | (kk, M1) => min z n - kk) (fun (v : Nat × Mem) => match v with | (kk, M1) => M1) (fun (v : Nat × Mem) => match v with | (kk, M1) => [(0, .ref (ga g 91)), (1, .int (nI s)), (3, .int (nI kk))]) (0, M) (show (0 ≤ min z n) ∧ (∀ q, q ≠ 101 → q ≠ 102 → M q = M q) ∧ (fstK (jdP (fun k => M 98 (24 * s + k)) (mF M) n1 p) (min z n) 0 = fstK (jdP (fun k => M 98 (24 * s + k)) (mF M) n1 p) (min z n - 0) 0) from by exact ⟨Nat.zero_le _, fun _ _ _ => rfl, rfl⟩) ?_
    rintro ⟨kk, M1⟩ hI ih
    have hI : (kk ≤ min z n) ∧ (∀ q, q ≠ 101 → q ≠ 102 → M1 q = M q) ∧ (fstK (jdP (fun k => M 98 (24 * s + k)) (mF M) n1 p) (min z n) 0 = fstK (jdP (fun k => M 98 (24 * s + k)) (mF M) n1 p) (min z n - kk) kk) := hI
    obtain ⟨hk, hA, he⟩ := hI
    show KW pP l eE RR sS mI aG bB mE cD g 4 _ (M1) 18 [(0, .ref (ga g 91)), (1, .int (nI s)), (3, .int (nI kk))] []
    have hF : mF M1 = mF M := by unfold mF; rw [hA 92 (by decide) (by decide)]
    refine k_iload_n C 19 2 rfl rfl dX10_judge_18 rfl ?_
    refine k_aload_n C 20 0 rfl rfl dX10_judge_19 rfl ?_
    refine k_get C 23 flX10_25 91 (by decide) (v := .ref (ga g 97)) (ce_91 g _) rfl dX10_judge_20 rfl ?_
    refine k_iload_n C 24 1 rfl rfl dX10_judge_23 rfl ?_
    refine k_iald C 25 97 s (by decide) (ce_97 g) (by decide) rfl (by omega) dX10_judge_24 rfl ?_
    refine k_teq (y := nI z) (by rw [hA 97 (by decide) (by decide)]; exact hz) ?_
    refine k_icmp_ge C 63 28 dX10_judge_25 (by decide) rfl (fun c25 => ?_) (fun d25 => ?_)
    · skip
      have c25 := (nI_leI (by omega) (by omega)).mp (show nI z ≤ nI kk from c25)
      refine k_iload_n C 64 2 rfl rfl dX10_judge_63 rfl ?_
      refine k_ret C rfl dX10_judge_64 ?_
      exact ⟨by rw [he, fstK_end (by omega)], hA⟩
    · skip
      have d25 := mt (nI_leI (by omega) (by omega)).mpr (show ¬ (nI z ≤ nI kk) from d25)
      refine k_iload_n C 29 2 rfl rfl dX10_judge_28 rfl ?_
      refine k_aload_n C 30 0 rfl rfl dX10_judge_29 rfl ?_
      refine k_get C 33 flX10_9 91 (by decide) (v := .ref (ga g 92)) (ce_91 g _) rfl dX10_judge_30 rfl ?_
      refine k_iconst C 34 (v := 2) (by decide) dX10_judge_33 rfl ?_
      refine k_iald C 35 92 2 (by decide) (ce_92 g) (by decide) rfl (by omega) dX10_judge_34 rfl ?_
      refine k_teq (y := nI n) (by rw [hA 92 (by decide) (by decide)]; exact hn) ?_
      refine k_icmp_ge C 63 38 dX10_judge_35 (by decide) rfl (fun c35 => ?_) (fun d35 => ?_)
      · skip
        have c35 := (nI_leI (by omega) (by omega)).mp (show nI n ≤ nI kk from c35)
        refine k_iload_n C 64 2 rfl rfl dX10_judge_63 rfl ?_
        refine k_ret C rfl dX10_judge_64 ?_
        exact ⟨by rw [he, fstK_end (by omega)], hA⟩
      · skip
        have d35 := mt (nI_leI (by omega) (by omega)).mpr (show ¬ (nI n ≤ nI kk) from d35)
        refine k_aload_n C 39 0 rfl rfl dX10_judge_38 rfl ?_
        refine k_get C 42 flX10_28 91 (by decide) (v := .ref (ga g 98)) (ce_91 g _) rfl dX10_judge_39 rfl ?_
        refine k_bipush C 44 (v := 24) (by decide) dX10_judge_42 rfl ?_
        refine k_iload_n C 45 1 rfl rfl dX10_judge_44 rfl ?_
        refine k_imul C 46 dX10_judge_45 rfl ?_
        refine k_teq (pk_mul 24 s) ?_
        refine k_iload_n C 47 2 rfl rfl dX10_judge_46 rfl ?_
        refine k_iadd C 48 dX10_judge_47 rfl ?_
        refine k_teq (nI_add (24 * s) kk) ?_
        refine k_iald C 49 98 ((24 * s) + kk) (by decide) (ce_98 g) (by decide) rfl (by omega) dX10_judge_48 rfl ?_
        refine k_teq (y := M 98 (24 * s + kk)) (by rw [hA 98 (by decide) (by decide)]) ?_
        refine k_aload_n C 50 0 rfl rfl dX10_judge_49 rfl ?_
        refine k_iload_n C 51 2 rfl rfl dX10_judge_50 rfl ?_
        refine k_callVI C 54 (As := [.int (nI kk)]) (st := [.int (M 98 (24 * s + kk))]) 91 (by decide) (ce_91 g _) rfl rfl mwX10_105 vlX10_senseOf (qX10_senseOf l g M1 (n := n1) p (mlawOk_of hL (hA 92 (by decide) (by decide))) (f := kk) (by omega)) mlX10_senseOf (by decide) (by decide) rfl rfl (Nat.le_of_ble_eq_true rfl) dX10_judge_51 rfl (fun r2 M2 h2 => ?_)
        obtain ⟨hr2, hs2⟩ := h2
        rw [hF] at hr2
        refine k_icmp_ne C 63 57 dX10_judge_54 (by decide) rfl (fun c54 => ?_) (fun d54 => ?_)
        · skip
          refine k_iload_n C 64 2 rfl rfl dX10_judge_63 rfl ?_
          refine k_ret C rfl dX10_judge_64 ?_
          exact ⟨by rw [he, fstK_hit (by omega) (decide_eq_false (fun q => c54 (q.trans hr2.symm)))], fun q h1 h2 => (hs2 q h1 h2).trans (hA q h1 h2)⟩
        · skip
          refine k_iinc C 60 (nI (kk + 1)) 2 [(3, .int (nI (kk + 1))), (0, .ref (ga g 91)), (1, .int (nI s))] rfl (iinc_p kk) (by decide) rfl dX10_judge_57 rfl ?_
          refine k_goto C 18 dX10_judge_60 (by decide) ?_
          refine k_sub [(0, .ref (ga g 91)), (1, .int (nI s)), (3, .int (nI (kk + 1)))] [1, 2, 0] rfl ?_
          refine k_all (M' := M2) (lo' := [(0, .ref (ga g 91)), (1, .int (nI s)), (3, .int (nI (kk + 1)))]) (st' := []) (by rfl) (by rfl) rfl ?_
          exact ih (kk + 1, M2) (show ((kk + 1) ≤ min z n) ∧ (∀ q, q ≠ 101 → q ≠ 102 → M2 q = M q) ∧ (fstK (jdP (fun k => M 98 (24 * s + k)) (mF M) n1 p) (min z n) 0 = fstK (jdP (fun k => M 98 (24 * s + k)) (mF M) n1 p) (min z n - (kk + 1)) (kk + 1)) from by exact ⟨by omega, fun q h1 h2 => (hs2 q h1 h2).trans (hA q h1 h2), by rw [he, fstK_go (by omega) (decide_eq_true (d54.trans hr2))]⟩) (by show min z n - (kk + 1) < min z n - kk; omega)
  · skip
    exact absurd d7 (by decide)
set_option maxHeartbeats 4000000 in
set_option maxRecDepth 20000 in
theorem qX10_check (l : Launch) (g : GT) (M : Mem) {n : Nat} (hn : M 92 2 = nI n) (h12 : n ≤ 12) {u : Nat} (hu : M 92 5 = nI u) (h24 : u ≤ 24) : CtrE l g yX10_check cX10_check 3 (some .int) 2 [.ref (ga g 91)] M (chk u (fstK (wtP (fun i => M 92 (150 + i)) (mF M) n) u 0)) (mu M 92 5 0) := by
  refine ctrI_of (by decide +kernel) (Nat.le_of_ble_eq_true rfl) ?_
  intro pP eE RR sS mI aG bB mE cD C
  refine k_lo (lo' := [(0, .ref (ga g 91))]) rfl ?_
  refine k_aload_n C 1 0 rfl rfl dX10_check_0 rfl ?_
  refine k_get C 4 flX10_9 91 (by decide) (v := .ref (ga g 92)) (ce_91 g _) rfl dX10_check_1 rfl ?_
  refine k_iconst C 5 (v := 5) (by decide) dX10_check_4 rfl ?_
  refine k_iald C 6 92 5 (by decide) (ce_92 g) (by decide) rfl (by omega) dX10_check_5 rfl ?_
  refine k_teq (y := nI u) hu ?_
  refine k_istore_n C 7 [(1, .int (nI u)), (0, .ref (ga g 91))] rfl (by decide) rfl dX10_check_6 rfl ?_
  refine k_aload_n C 8 1 rfl rfl dX10_check_7 rfl ?_
  refine k_get C 11 flX10_9 91 (by decide) (v := .ref (ga g 92)) (ce_91 g _) rfl dX10_check_8 rfl ?_
  refine k_iconst C 12 (v := 5) (by decide) dX10_check_11 rfl ?_
  refine k_iconst C 13 (v := 0) (by decide) dX10_check_12 rfl ?_
  refine k_iast C 14 92 5 (by decide) (ce_92 g) (by decide) rfl (by omega) dX10_check_13 rfl ?_
  refine k_iconst C 15 (v := 0) (by decide) dX10_check_14 rfl ?_
  refine k_istore_n C 16 [(2, .int 0), (1, .int (nI u)), (0, .ref (ga g 91))] rfl (by decide) rfl dX10_check_15 rfl ?_
  refine k_sub [(0, .ref (ga g 91)), (1, .int (nI u)), (2, .int 0)] [2, 1, 0] rfl ?_
  refine k_all (M' := mu M 92 5 0) (lo' := [(0, .ref (ga g 91)), (1, .int (nI u)), (2, .int (nI 0))]) (st' := []) (by rfl) (by rfl) rfl ?_
  refine k_loop (σ := Nat) (fun (k : Nat) => (k ≤ u) ∧ (fstK (wtP (fun i => M 92 (150 + i)) (mF M) n) u 0 = fstK (wtP (fun i => M 92 (150 + i)) (mF M) n) (u - k) k)) (fun (k : Nat) => u - k) (fun (k : Nat) => mu M 92 5 0) (fun (k : Nat) => [(0, .ref (ga g 91)), (1, .int (nI u)), (2, .int (nI k))]) 0 (show (0 ≤ u) ∧ (fstK (wtP (fun i => M 92 (150 + i)) (mF M) n) u 0 = fstK (wtP (fun i => M 92 (150 + i)) (mF M) n) (u - 0) 0) from by exact ⟨Nat.zero_le _, rfl⟩) ?_
  rintro k hI ih
  have hI : (k ≤ u) ∧ (fstK (wtP (fun i => M 92 (150 + i)) (mF M) n) u 0 = fstK (wtP (fun i => M 92 (150 + i)) (mF M) n) (u - k) k) := hI
  obtain ⟨hk, he⟩ := hI
  show KW pP l eE RR sS mI aG bB mE cD g 3 _ (mu M 92 5 0) 16 [(0, .ref (ga g 91)), (1, .int (nI u)), (2, .int (nI k))] []
  refine k_iload_n C 17 2 rfl rfl dX10_check_16 rfl ?_
  refine k_iload_n C 18 1 rfl rfl dX10_check_17 rfl ?_
  refine k_icmp_ge C 58 21 dX10_check_18 (by decide) rfl (fun c18 => ?_) (fun d18 => ?_)
  · skip
    have c18 := (nI_leI (by omega) (by omega)).mp (show nI u ≤ nI k from c18)
    refine k_iconst C 59 (v := 0) (by decide) dX10_check_58 rfl ?_
    refine k_ret C rfl dX10_check_59 ?_
    exact ⟨by rw [he, fstK_end (by omega)]; exact (if_neg (by omega)).symm, rfl⟩
  · skip
    have d18 := mt (nI_leI (by omega) (by omega)).mpr (show ¬ (nI u ≤ nI k) from d18)
    refine k_aload_n C 22 0 rfl rfl dX10_check_21 rfl ?_
    refine k_iload_n C 23 2 rfl rfl dX10_check_22 rfl ?_
    refine k_callVE C 26 (As := [.int (nI k)]) (st := []) 91 (by decide) (ce_91 g _) rfl rfl mwX10_102 vlX10_isFurrow (qX10_isFurrow l g (mu M 92 5 0) (n := n) (by rw [mu_o _ _ _ (by decide)]; exact hn) h12 (nI k)) mlX10_isFurrow (by decide) (by decide) rfl rfl (Nat.le_of_ble_eq_true rfl) dX10_check_23 rfl ?_
    refine k_if_eqB C 48 29 dX10_check_26 (by decide) rfl (fun c26 => ?_) (fun d26 => ?_)
    · skip
      refine k_iconst C 49 (v := 1) (by decide) dX10_check_48 rfl ?_
      refine k_iload_n C 50 2 rfl rfl dX10_check_49 rfl ?_
      refine k_iadd C 51 dX10_check_50 rfl ?_
      refine k_teq (nI_add 1 k) ?_
      refine k_ret C rfl dX10_check_51 ?_
      have hP : wtP (fun i => M 92 (150 + i)) (mF M) n k = false := by
        rw [pIsF_nI h12 (by omega)] at c26
        unfold wtP; rw [c26]; rfl
      exact ⟨by rw [he, fstK_hit (by omega) hP]; exact (if_pos (by omega)).symm, rfl⟩
    · skip
      have hkn : k < n := by rw [pIsF_nI h12 (by omega)] at d26; exact of_decide_eq_true d26
      refine k_aload_n C 30 0 rfl rfl dX10_check_29 rfl ?_
      refine k_get C 33 flX10_9 91 (by decide) (v := .ref (ga g 92)) (ce_91 g _) rfl dX10_check_30 rfl ?_
      refine k_sipush C 36 (v := 150) (by decide) dX10_check_33 rfl ?_
      refine k_iload_n C 37 2 rfl rfl dX10_check_36 rfl ?_
      refine k_iadd C 38 dX10_check_37 rfl ?_
      refine k_teq (nI_add 150 k) ?_
      refine k_iald C 39 92 (150 + k) (by decide) (ce_92 g) (by decide) rfl (by omega) dX10_check_38 rfl ?_
      refine k_teq (y := M 92 (150 + k)) (mu_o _ _ _ (by omega)) ?_
      refine k_aload_n C 40 0 rfl rfl dX10_check_39 rfl ?_
      refine k_iload_n C 41 2 rfl rfl dX10_check_40 rfl ?_
      refine k_iconst C 42 (v := 5) (by decide) dX10_check_41 rfl ?_
      refine k_callVE C 45 (As := [.int (nI k), .int 5]) (st := [.int (M 92 (150 + k))]) 91 (by decide) (ce_91 g _) rfl rfl mwX10_58 vlX10_of (qX10_of l g (mu M 92 5 0) (f := k) (w := 5) (by omega) (by omega)) mlX10_of (by decide) (by decide) rfl rfl (Nat.le_of_ble_eq_true rfl) dX10_check_42 rfl ?_
      refine k_teq (y := mF M k 5) (by rw [mF_mu, if_neg (by omega)]) ?_
      refine k_icmp_eq C 52 48 dX10_check_45 (by decide) rfl (fun c45 => ?_) (fun d45 => ?_)
      · skip
        refine k_iinc C 55 (nI (k + 1)) 2 [(2, .int (nI (k + 1))), (0, .ref (ga g 91)), (1, .int (nI u))] rfl (iinc_p k) (by decide) rfl dX10_check_52 rfl ?_
        refine k_goto C 16 dX10_check_55 (by decide) ?_
        refine k_sub [(0, .ref (ga g 91)), (1, .int (nI u)), (2, .int (nI (k + 1)))] [1, 2, 0] rfl ?_
        refine k_all (M' := mu M 92 5 0) (lo' := [(0, .ref (ga g 91)), (1, .int (nI u)), (2, .int (nI (k + 1)))]) (st' := []) (by rfl) (by rfl) rfl ?_
        exact ih (k + 1) (show ((k + 1) ≤ u) ∧ (fstK (wtP (fun i => M 92 (150 + i)) (mF M) n) u 0 = fstK (wtP (fun i => M 92 (150 + i)) (mF M) n) (u - (k + 1)) (k + 1)) from by exact ⟨by omega, by rw [he, fstK_go (by omega) (by unfold wtP; rw [decide_eq_true hkn, decide_eq_true (show M 92 (150 + k) = mF M k 5 from c45)]; rfl)]⟩) (by show u - (k + 1) < _; omega)
      · skip
        refine k_iconst C 49 (v := 1) (by decide) dX10_check_48 rfl ?_
        refine k_iload_n C 50 2 rfl rfl dX10_check_49 rfl ?_
        refine k_iadd C 51 dX10_check_50 rfl ?_
        refine k_teq (nI_add 1 k) ?_
        refine k_ret C rfl dX10_check_51 ?_
        have hP : wtP (fun i => M 92 (150 + i)) (mF M) n k = false := by
          unfold wtP; rw [decide_eq_false (show ¬ M 92 (150 + k) = mF M k 5 from d45), Bool.and_false]
        exact ⟨by rw [he, fstK_hit (by omega) hP]; exact (if_pos (by omega)).symm, rfl⟩
