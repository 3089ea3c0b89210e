-- the reference: fewest, reply, odds: pure words
theorem popc_le (m : Nat) : popc m ≤ 12 := by
  simp only [popc, List.range, List.range.loop, List.foldl]; omega
theorem bitI {x : Nat} (h : x < 4096) (i : Nat) : (nI x).toBitVec.getLsbD i = x.testBit i := by
  show (BitVec.ofNat 32 x).getLsbD i = _
  rw [BitVec.getLsbD_ofNat]
  by_cases hi : i < 32
  · simp [hi]
  · rw [Nat.testBit_lt_two_pow (Nat.lt_of_lt_of_le h (Nat.le_trans (show 4096 ≤ 2 ^ 32 by decide) (Nat.pow_le_pow_right (by decide) (by omega))))]; simp
theorem t4095 (i : Nat) : (4095 : Nat).testBit i = decide (i < 12) := Nat.testBit_two_pow_sub_one (n := 12) (i := i)
theorem andn_lt {a b : Nat} (ha : a < 4096) : a &&& (4095 ^^^ b) < 4096 := Nat.lt_of_le_of_lt Nat.and_le_left ha
theorem andn12 {a b : Nat} (ha : a < 4096) (hb : b < 4096) : (nI a &&& (nI b ^^^ (-1))) = nI (a &&& (4095 ^^^ b)) := by
  apply Int32.toBitVec_inj.mp
  apply BitVec.eq_of_getLsbD_eq
  intro i hi
  rw [bitI (andn_lt ha) i]
  show ((nI a).toBitVec &&& ((nI b).toBitVec ^^^ (-1 : Int32).toBitVec)).getLsbD i = _
  rw [BitVec.getLsbD_and, BitVec.getLsbD_xor, bitI ha, bitI hb, show (-1 : Int32).toBitVec = BitVec.allOnes 32 by decide, BitVec.getLsbD_allOnes, Nat.testBit_and, Nat.testBit_xor, t4095]
  by_cases h12 : i < 12
  · simp [hi, h12]
  · rw [Nat.testBit_lt_two_pow (Nat.lt_of_lt_of_le ha (Nat.pow_le_pow_right (n := 2) (i := 12) (by decide) (by omega)))]; simp
/-- a set read from its first one: none: one doesn't answer the one ahead; some: the last one so far -/
def isTk (F : Nat → Nat → Int32) (m : Nat) : Nat → Option (Option Nat)
  | 0 => some none
  | i + 1 => match isTk F m i with
    | none => none
    | some q => if m / 2 ^ i % 2 = 1 then (match q with
      | none => some (some i)
      | some a => if pAns (F i) (F a) then some (some i) else none) else some q
theorem isTk_skip {F : Nat → Nat → Int32} {m i : Nat} (h : ¬ m / 2 ^ i % 2 = 1) : isTk F m (i + 1) = isTk F m i := by
  simp only [isTk]
  split
  · rename_i e; rw [e]
  · rename_i q e; rw [if_neg h, e]
theorem isTk_fst {F : Nat → Nat → Int32} {m i : Nat} (h : m / 2 ^ i % 2 = 1) (e : isTk F m i = some none) : isTk F m (i + 1) = some (some i) := by
  simp only [isTk]; rw [e]; simp only [if_pos h]
theorem isTk_ans {F : Nat → Nat → Int32} {m i a : Nat} (h : m / 2 ^ i % 2 = 1) (e : isTk F m i = some (some a)) (hp : pAns (F i) (F a) = true) : isTk F m (i + 1) = some (some i) := by
  simp only [isTk]; rw [e]; simp only [if_pos h, hp, if_true]
theorem isTk_bad {F : Nat → Nat → Int32} {m i a : Nat} (h : m / 2 ^ i % 2 = 1) (e : isTk F m i = some (some a)) (hp : pAns (F i) (F a) = false) : isTk F m (i + 1) = none := by
  simp only [isTk]; rw [e]; simp only [if_pos h, hp]; rfl
theorem isTk_no {F : Nat → Nat → Int32} {m i : Nat} (e : isTk F m i = none) : ∀ k, isTk F m (i + k) = none
  | 0 => e
  | k + 1 => by
    show isTk F m (i + k + 1) = none
    simp only [isTk]; rw [isTk_no e k]
theorem isTk_lt (F : Nat → Nat → Int32) (m : Nat) : ∀ i a, isTk F m i = some (some a) → a < i ∧ m / 2 ^ a % 2 = 1
  | 0, a, h => by simp [isTk] at h
  | i + 1, a, h => by
    simp only [isTk] at h
    split at h
    · cases h
    · rename_i q e
      split at h
      · rename_i hb
        split at h
        · have e2 := Option.some.inj (Option.some.inj h); subst e2; exact ⟨by omega, hb⟩
        · split at h
          · have e2 := Option.some.inj (Option.some.inj h); subst e2; exact ⟨by omega, hb⟩
          · cases h
      · have e2 := Option.some.inj h
        subst e2
        have := isTk_lt F m i a e
        exact ⟨by omega, this.2⟩
theorem isTk_v {F : Nat → Nat → Int32} {m f : Nat} {q : Option Nat} {b : Bool} (hT : b = true → isTk F m f = some q) (hF : b = false → isTk F m f = none) : b = (isTk F m f).isSome := by
  cases b with
  | true => rw [hT rfl]; rfl
  | false => rw [hF rfl]; rfl
theorem isTk_f {F : Nat → Nat → Int32} {m f n : Nat} (h : isTk F m f = none) (hn : f ≤ n) : (isTk F m n).isSome = false := by
  have e := isTk_no h (n - f)
  rw [show f + (n - f) = n by omega] at e
  rw [e]; rfl
/-- the sets below j tried one after the other, from the greatest on; b is the best so far -/
def fwB (A : Nat) (P : Nat → Bool) : Nat → Nat → Nat
  | 0, b => b
  | j + 1, b => fwB A P j (if (j &&& (4095 ^^^ A)) = 0 ∧ popc j ≤ popc b ∧ P (A &&& (4095 ^^^ j)) = true then j else b)
theorem fwB_y {A : Nat} {P : Nat → Bool} {j b : Nat} (h1 : (j &&& (4095 ^^^ A)) = 0) (h2 : popc j ≤ popc b) (h3 : P (A &&& (4095 ^^^ j)) = true) : fwB A P (j + 1) b = fwB A P j j := by
  simp only [fwB]; rw [if_pos ⟨h1, h2, h3⟩]
theorem fwB_n {A : Nat} {P : Nat → Bool} {j b : Nat} (h : ¬ ((j &&& (4095 ^^^ A)) = 0 ∧ popc j ≤ popc b ∧ P (A &&& (4095 ^^^ j)) = true)) : fwB A P (j + 1) b = fwB A P j b := by
  simp only [fwB]; rw [if_neg h]
/-- what a step costs from a line to another one -/
def pSt (n : Nat) (p : Nat → Int32) (pat : Int32) (a b : Nat) : Int32 := if decide (a / 6 = b / 6) = decide (a % 6 = b % 6) then -1 else pGive 0 n p (nI (ab (a / 6) (b / 6))) (nI (ab (a % 6) (b % 6))) pat
theorem nI_subz {i u : Nat} (hi : i < 2 ^ 30) (hu : u < 2 ^ 30) : nI i - nI u = 0 ↔ i = u := by
  constructor
  · intro h
    have h2 : nI i = nI u := by
      have e := Int32.sub_add_cancel (nI i) (nI u)
      rw [h, Int32.zero_add] at e; exact e.symm
    exact (nI_eq (by omega) (by omega)).mp h2
  · rintro rfl; exact Int32.sub_self _
theorem nI_sp {i u : Nat} (hi : i < 2 ^ 30) (hu : u < 2 ^ 30) (h : ¬ nI i - nI u < 0) : nI i - nI u = nI (ab i u) := by
  have e := nI_abs hi hu
  rw [if_pos (Int32.not_lt.mp h)] at e; exact e
theorem nI_sn {i u : Nat} (hi : i < 2 ^ 30) (hu : u < 2 ^ 30) (h : nI i - nI u < 0) : -(nI i - nI u) = nI (ab i u) := by
  have e := nI_abs hi hu
  rw [if_neg (Int32.not_le.mpr h)] at e
  rw [← e, Int32.zero_sub]
/-- D goes from a line to the next one by at most what a step costs -/
def Dok (st : Nat → Nat → Nat) (t : Nat) (D : Nat → Nat) : Prop := D t = 0 ∧ (∀ i, i < 72 → D i ≤ 9999) ∧ ∀ a b, a < 72 → b < 72 → st a b ≠ 0 → D a ≤ D b + st a b
def sm (c : Nat → Nat) : Nat → Nat
  | 0 => 0
  | i + 1 => sm c i + c i
theorem sm_eq {c d : Nat → Nat} : ∀ k, (∀ i, i < k → c i = d i) → sm c k = sm d k
  | 0, _ => rfl
  | k + 1, h => by
    simp only [sm]
    rw [sm_eq k (fun i hi => h i (by omega)), h k (by omega)]
theorem sm_le {c d : Nat → Nat} : ∀ k, (∀ i, i < k → c i ≤ d i) → sm c k ≤ sm d k
  | 0, _ => Nat.le_refl _
  | k + 1, h => by
    have h1 := sm_le k (fun i hi => h i (by omega))
    have h2 := h k (by omega)
    simp only [sm]; omega
theorem sm_lt {c d : Nat → Nat} : ∀ k, (∀ i, i < k → c i ≤ d i) → ∀ a, a < k → c a < d a → sm c k < sm d k
  | 0, _, _, h, _ => absurd h (Nat.not_lt_zero _)
  | k + 1, h, a, ha, hd => by
    simp only [sm]
    by_cases e : a = k
    · subst e
      have h1 := sm_le a (fun i hi => h i (by omega)); omega
    · have h1 := sm_lt k (fun i hi => h i (by omega)) a (by omega) hd
      have h2 := h k (by omega); omega
def fcI (M M1 : Mem) (st : Nat → Nat → Nat) (t : Nat) (c : Nat → Nat) : Prop := (∀ q, q ≠ 101 → q ≠ 102 → q ≠ 103 → M1 q = M q) ∧ (∀ i, i < 72 → M1 103 i = nI (c i)) ∧ (∀ i, i < 72 → c i ≤ 9999) ∧ c t = 0 ∧ ∀ D, Dok st t D → ∀ i, i < 72 → D i ≤ c i
def fcS (st : Nat → Nat → Nat) (c0 c : Nat → Nat) (g : Bool) (a b : Nat) : Prop := (g = false → (∀ i, i < 72 → c i = c0 i) ∧ ∀ a' b', a' < 72 → b' < 72 → (a' < a ∨ (a' = a ∧ b' < b)) → st a' b' ≠ 0 → c a' ≤ c b' + st a' b') ∧ (g = true → sm c 72 < sm c0 72)
def fcE (st : Nat → Nat → Nat) (c : Nat → Nat) : Prop := ∀ a b, a < 72 → b < 72 → st a b ≠ 0 → c a ≤ c b + st a b
theorem fcS_0 (st : Nat → Nat → Nat) (c : Nat → Nat) : fcS st c c false 0 0 := ⟨fun _ => ⟨fun _ _ => rfl, fun a' b' _ _ h => by omega⟩, fun h => absurd h (by decide)⟩
theorem fcS_row {st : Nat → Nat → Nat} {c0 c : Nat → Nat} {g : Bool} {a : Nat} (h : fcS st c0 c g a 72) : fcS st c0 c g (a + 1) 0 :=
  ⟨fun e => ⟨(h.1 e).1, fun a' b' h1 h2 h3 => (h.1 e).2 a' b' h1 h2 (by omega)⟩, h.2⟩
theorem fcS_same {st : Nat → Nat → Nat} {c0 c : Nat → Nat} {g : Bool} {a b : Nat} (h : fcS st c0 c g a b) (hq : st a b ≠ 0 → c a ≤ c b + st a b) : fcS st c0 c g a (b + 1) := by
  refine ⟨fun e => ⟨(h.1 e).1, fun a' b' h1 h2 h3 h4 => ?_⟩, h.2⟩
  by_cases q : a' = a ∧ b' = b
  · obtain ⟨rfl, rfl⟩ := q; exact hq h4
  · exact (h.1 e).2 a' b' h1 h2 (by omega) h4
theorem fcS_upd {st : Nat → Nat → Nat} {c0 c : Nat → Nat} {g : Bool} {a b : Nat} (h : fcS st c0 c g a b) (ha : a < 72) {x : Nat} (hx : x < c a) : fcS st c0 (fun i => if i = a then x else c i) true a (b + 1) := by
  refine ⟨fun e => absurd e (by decide), fun _ => ?_⟩
  have h1 : sm (fun i => if i = a then x else c i) 72 < sm c 72 := sm_lt 72 (fun i _ => by
    by_cases e : i = a
    · subst e; simp only [if_true]; omega
    · simp only [if_neg e]; exact Nat.le_refl _) a ha (by simp only [if_true]; exact hx)
  cases g with
  | true => exact Nat.lt_trans h1 (h.2 rfl)
  | false => rw [← sm_eq 72 (h.1 rfl).1]; exact h1
theorem fcI_upd {M M1 M2 : Mem} {st : Nat → Nat → Nat} {t : Nat} {c : Nat → Nat} (h : fcI M M1 st t c) {a b : Nat} (ha : a < 72) (hb : b < 72) (hs : st a b ≠ 0) (hx : c b + st a b < c a) (h2 : ∀ q, q ≠ 101 → q ≠ 102 → M2 q = M1 q) : fcI M (mu M2 103 a (nI (c b + st a b))) st t (fun i => if i = a then c b + st a b else c i) := by
  obtain ⟨k1, k2, k3, k4, k5⟩ := h
  refine ⟨fun q q1 q2 q3 => by rw [mu_n _ _ _ q3, h2 q q1 q2]; exact k1 q q1 q2 q3, fun i hi => ?_, fun i hi => ?_, ?_, fun D hD i hi => ?_⟩
  · by_cases e : i = a
    · subst e; rw [mu_s]; exact congrArg nI (if_pos rfl).symm
    · rw [mu_o _ _ _ e, h2 103 (by decide) (by decide)]; exact (k2 i hi).trans (congrArg nI (if_neg e).symm)
  · have := k3 a ha
    by_cases e : i = a
    · simp only [if_pos e]; omega
    · simp only [if_neg e]; exact k3 i hi
  · by_cases e : t = a
    · subst e; omega
    · simp only [if_neg e]; exact k4
  · by_cases e : i = a
    · subst e
      have h3 := hD.2.2 i b ha hb hs
      have h4 := k5 D hD b hb
      simp only [if_true]; omega
    · simp only [if_neg e]; exact k5 D hD i hi
theorem fcI_mv {M M1 M2 : Mem} {st : Nat → Nat → Nat} {t : Nat} {c : Nat → Nat} (h : fcI M M1 st t c) (h2 : ∀ q, q ≠ 101 → q ≠ 102 → M2 q = M1 q) : fcI M M2 st t c :=
  ⟨fun q q1 q2 q3 => (h2 q q1 q2).trans (h.1 q q1 q2 q3), fun i hi => by rw [h2 103 (by decide) (by decide)]; exact h.2.1 i hi, h.2.2⟩
theorem fcE_of {st : Nat → Nat → Nat} {c0 c : Nat → Nat} {g : Bool} (h : fcS st c0 c g 72 0) : g = false → fcE st c :=
  fun e a b h1 h2 h3 => (h.1 e).2 a b h1 h2 (by omega) h3
theorem fc_mu {st : Nat → Nat → Nat} {c0 c : Nat → Nat} {g : Bool} (h : fcS st c0 c g 72 0) : 2 * sm c 72 + (if g then 1 else 0) < 2 * sm c0 72 + 1 := by
  cases g with
  | true => have := h.2 rfl; simp only [if_true]; omega
  | false => rw [sm_eq 72 (h.1 rfl).1]; simp
theorem fcI_0 {M M1 : Mem} {st : Nat → Nat → Nat} {t : Nat} (hA : ∀ a, a ≠ 103 → M1 a = M a) (hB : ∀ i, i < 72 → M1 103 i = nI (if i = t then 0 else 9999)) : fcI M M1 st t (fun i => if i = t then 0 else 9999) := by
  refine ⟨fun q _ _ q3 => hA q q3, hB, fun i _ => ?_, if_pos rfl, fun D hD i hi => ?_⟩
  · by_cases e : i = t
    · simp only [if_pos e]; omega
    · simp only [if_neg e]; exact Nat.le_refl _
  · by_cases e : i = t
    · subst e; simp only [if_true]; rw [hD.1]; exact Nat.le_refl _
    · simp only [if_neg e]; exact hD.2.1 i hi
def stOk (n : Nat) (p : Nat → Int32) (pat : Int32) (st : Nat → Nat → Nat) : Prop := ∀ a b, a < 72 → b < 72 → pSt n p pat a b = (if st a b = 0 then -1 else nI (st a b)) ∧ st a b ≤ 99
theorem stOk_lt {n : Nat} {p : Nat → Int32} {pat : Int32} {st : Nat → Nat → Nat} (h : stOk n p pat st) {a b : Nat} (ha : a < 72) (hb : b < 72) (hr : pSt n p pat a b ≤ 0) : st a b = 0 := by
  have h1 := h a b ha hb
  by_cases e : st a b = 0
  · exact e
  · rw [h1.1, if_neg e] at hr
    exact absurd hr (nI_nle (by omega) (by omega))
theorem stOk_gt {n : Nat} {p : Nat → Int32} {pat : Int32} {st : Nat → Nat → Nat} (h : stOk n p pat st) {a b : Nat} (ha : a < 72) (hb : b < 72) (hr : ¬ pSt n p pat a b ≤ 0) : st a b ≠ 0 ∧ pSt n p pat a b = nI (st a b) := by
  have h1 := h a b ha hb
  by_cases e : st a b = 0
  · rw [h1.1, if_pos e] at hr
    exact absurd (by decide) hr
  · exact ⟨e, by rw [h1.1, if_neg e]⟩
/-- the line behind the first step -/
def pRp (st : Nat → Nat → Nat) (c : Nat → Nat) (fr : Nat) : Int32 := if c fr = 0 then -1 else match pFit (fun b => decide (st fr b ≠ 0 ∧ c b + st fr b = c fr)) 72 0 with
  | none => -1
  | some b => nI (10 * (1 + b / 6) + b % 6)
/-- a furrow as it would be -/
def cnd (kd m lo cr h : Int32) : Nat → Int32 := fun j => if j = 0 then kd else if j = 1 then m else if j = 2 then lo else if j = 3 then cr else h
def pEch (km h : Int32) (b : Nat → Int32) : Nat → Nat
  | 0 => 0
  | i + 1 => pEch km h b i + (if pAns (cnd (km / 10) (km - km / 10 * 10) (nI (1 + i / 6)) (nI (i % 6)) h) b then 1 else 0)
theorem pEch_le (km h : Int32) (b : Nat → Int32) : ∀ i, pEch km h b i ≤ i
  | 0 => Nat.le_refl _
  | i + 1 => by
    have h1 := pEch_le km h b i
    simp only [pEch]; split <;> omega
def odR : Nat → Nat → Nat → Nat × Nat
  | 0, x, y => (x, y)
  | b + 1, x, y => if b + 1 ≤ 1 then (x, y) else if x % (b + 1) = 0 ∧ y % (b + 1) = 0 then odR b (x / (b + 1)) (y / (b + 1)) else odR b x y
theorem odR_1 (x y : Nat) : odR 1 x y = (x, y) := rfl
theorem odR_y {b x y : Nat} (h : ¬ b + 1 ≤ 1) (h1 : x % (b + 1) = 0) (h2 : y % (b + 1) = 0) : odR (b + 1) x y = odR b (x / (b + 1)) (y / (b + 1)) := by
  simp only [odR]; rw [if_neg h, if_pos ⟨h1, h2⟩]
theorem odR_n {b x y : Nat} (h : ¬ b + 1 ≤ 1) (h1 : ¬ (x % (b + 1) = 0 ∧ y % (b + 1) = 0)) : odR (b + 1) x y = odR b x y := by
  simp only [odR]; rw [if_neg h, if_neg h1]
theorem pRp_0 {st : Nat → Nat → Nat} {c : Nat → Nat} {fr : Nat} (h : c fr = 0) : pRp st c fr = -1 := if_pos h
theorem pRp_n {st : Nat → Nat → Nat} {c : Nat → Nat} {fr : Nat} (h : pFit (fun b => decide (st fr b ≠ 0 ∧ c b + st fr b = c fr)) 72 0 = none) : pRp st c fr = -1 := by
  unfold pRp; rw [h]; by_cases e : c fr = 0
  · rw [if_pos e]
  · rw [if_neg e]
theorem pRp_s {st : Nat → Nat → Nat} {c : Nat → Nat} {fr b : Nat} (h0 : c fr ≠ 0) (h : pFit (fun b => decide (st fr b ≠ 0 ∧ c b + st fr b = c fr)) 72 0 = some b) : pRp st c fr = nI (10 * (1 + b / 6) + b % 6) := by
  unfold pRp; rw [h, if_neg h0]
theorem pCome_n (M : Mem) (n : Nat) (km lo cr hand : Int32) {a : Nat} (h : a ≠ 92) : pCome M n km lo cr hand a = M a := by
  unfold pCome; simp only [mu_n _ _ _ h]
theorem pCome_o (M : Mem) (n : Nat) (km lo cr hand : Int32) {q : Nat} (h : q ≠ 2) (h2 : ¬ (6 + 7 * n ≤ q ∧ q < 6 + 7 * n + 7)) : pCome M n km lo cr hand 92 q = M 92 q := by
  unfold pCome
  rw [mu_o _ _ _ (by omega), mu_o _ _ _ (by omega), mu_o _ _ _ (by omega), mu_o _ _ _ (by omega), mu_o _ _ _ (by omega), mu_o _ _ _ (by omega), mu_o _ _ _ (by omega), mu_o _ _ _ h]
theorem pCome_f (M : Mem) (n : Nat) (km lo cr hand : Int32) (j : Nat) (hj : j < 5) : mF (pCome M n km lo cr hand) n j = cnd (km / 10) (km - km / 10 * 10) lo cr hand j := by
  unfold mF pCome cnd
  rcases (show j = 0 ∨ j = 1 ∨ j = 2 ∨ j = 3 ∨ j = 4 by omega) with rfl | rfl | rfl | rfl | rfl <;> simp [mu_at]
theorem pCome_ans {M M1 : Mem} {n : Nat} (hB : ∀ q, ¬ (6 + 7 * n ≤ q ∧ q < 6 + 7 * n + 7) → M1 92 q = M 92 q) (km lo cr hand : Int32) {a : Nat} (ha : a < n) : pAns (mF (pCome M1 n km lo cr hand) n) (mF (pCome M1 n km lo cr hand) a) = pAns (cnd (km / 10) (km - km / 10 * 10) lo cr hand) (mF M a) :=
  pAns_congr (fun j hj => pCome_f M1 n km lo cr hand j hj) (fun j hj => by
    show pCome M1 n km lo cr hand 92 (6 + 7 * a + j) = M 92 (6 + 7 * a + j)
    rw [pCome_o _ _ _ _ _ _ (by omega) (by omega)]; exact hB _ (by omega))

set_option maxHeartbeats 4000000 in
set_option maxRecDepth 20000 in
theorem qX10_isTalk (l : Launch) (g : GT) (M : Mem) {n : Nat} (hn : M 92 2 = nI n) (h12 : n ≤ 12) {m : Nat} (hm : m < 4096) : CtrE l g yX10_isTalk cX10_isTalk 5 (some .boolean) 2 [.ref (ga g 91), .int (nI m)] M (b2i (isTk (mF M) m n).isSome) M := by
  refine ctrI_of (by decide +kernel) (Nat.le_of_ble_eq_true rfl) ?_
  intro pP eE RR sS mI aG bB mE cD C
  refine k_lo (lo' := [(0, .ref (ga g 91)), (1, .int (nI m))]) rfl ?_
  refine k_iconst C 1 (v := (-1)) (by decide) dX10_isTalk_0 rfl ?_
  refine k_istore_n C 2 [(2, .int (-1)), (0, .ref (ga g 91)), (1, .int (nI m))] rfl (by decide) rfl dX10_isTalk_1 rfl ?_
  refine k_iconst C 3 (v := 1) (by decide) dX10_isTalk_2 rfl ?_
  refine k_istore_n C 4 [(3, .int 1), (2, .int (-1)), (0, .ref (ga g 91)), (1, .int (nI m))] rfl (by decide) rfl dX10_isTalk_3 rfl ?_
  refine k_iconst C 5 (v := 0) (by decide) dX10_isTalk_4 rfl ?_
  refine k_istore C 7 [(4, .int 0), (3, .int 1), (2, .int (-1)), (0, .ref (ga g 91)), (1, .int (nI m))]  (by decide) rfl dX10_isTalk_5 rfl ?_
  refine k_sub [(0, .ref (ga g 91)), (1, .int (nI m)), (2, .int (-1)), (3, .int 1), (4, .int 0)] [3, 4, 2, 1, 0] rfl ?_
  refine k_all (M' := M) (lo' := [(0, .ref (ga g 91)), (1, .int (nI m)), (2, .int (oI none)), (3, .int (b2i true)), (4, .int (nI 0))]) (st' := []) (by rfl) (by rfl) rfl ?_
  refine k_loop (σ := Nat × (Option Nat) × Bool) (fun (v : Nat × (Option Nat) × Bool) => match v with | (f, q, b) => (f ≤ n) ∧ (b = true → isTk (mF M) m f = some q) ∧ (b = false → isTk (mF M) m f = none)) (fun (v : Nat × (Option Nat) × Bool) => match v with | (f, q, b) => n - f) (fun (v : Nat × (Option Nat) × Bool) => match v with | (f, q, b) => M) (fun (v : Nat × (Option Nat) × Bool) => match v with | (f, q, b) => [(0, .ref (ga g 91)), (1, .int (nI m)), (2, .int (oI q)), (3, .int (b2i b)), (4, .int (nI f))]) (0, none, true) (show (0 ≤ n) ∧ (true = true → isTk (mF M) m 0 = some none) ∧ (true = false → isTk (mF M) m 0 = none) from by exact ⟨Nat.zero_le _, fun _ => rfl, fun z => absurd z (by decide)⟩) ?_
  rintro ⟨f, q, b⟩ hI ih
  have hI : (f ≤ n) ∧ (b = true → isTk (mF M) m f = some q) ∧ (b = false → isTk (mF M) m f = none) := hI
  obtain ⟨hf, hT, hF⟩ := hI
  show KW pP l eE RR sS mI aG bB mE cD g 5 _ (M) 7 [(0, .ref (ga g 91)), (1, .int (nI m)), (2, .int (oI q)), (3, .int (b2i b)), (4, .int (nI f))] []
  refine k_iload C 9 4  rfl dX10_isTalk_7 rfl ?_
  refine k_aload_n C 10 0 rfl rfl dX10_isTalk_9 rfl ?_
  refine k_get C 13 flX10_9 91 (by decide) (v := .ref (ga g 92)) (ce_91 g _) rfl dX10_isTalk_10 rfl ?_
  refine k_iconst C 14 (v := 2) (by decide) dX10_isTalk_13 rfl ?_
  refine k_iald C 15 92 2 (by decide) (ce_92 g) (by decide) rfl (by omega) dX10_isTalk_14 rfl ?_
  refine k_teq (y := nI n) hn ?_
  refine k_icmp_ge C 61 18 dX10_isTalk_15 (by decide) rfl (fun c15 => ?_) (fun d15 => ?_)
  · skip
    have c15 := (nI_leI (by omega) (by omega)).mp (show nI n ≤ nI f from c15)
    refine k_iload_n C 62 3 rfl rfl dX10_isTalk_61 rfl ?_
    refine k_ret C (nar_b2i _) dX10_isTalk_62 ?_
    have e : f = n := by omega
    subst e
    exact ⟨congrArg b2i (isTk_v hT hF), rfl⟩
  · skip
    have d15 := mt (nI_leI (by omega) (by omega)).mpr (show ¬ (nI n ≤ nI f) from d15)
    refine k_iload_n C 19 3 rfl rfl dX10_isTalk_18 rfl ?_
    refine k_if_eqB C 61 22 dX10_isTalk_19 (by decide) rfl (fun c19 => ?_) (fun d19 => ?_)
    · skip
      refine k_iload_n C 62 3 rfl rfl dX10_isTalk_61 rfl ?_
      refine k_ret C (nar_b2i _) dX10_isTalk_62 ?_
      exact ⟨congrArg b2i (c19.trans (isTk_f (hF c19) hf).symm), rfl⟩
    · skip
      refine k_iload_n C 23 1 rfl rfl dX10_isTalk_22 rfl ?_
      refine k_iload C 25 4  rfl dX10_isTalk_23 rfl ?_
      refine k_ishr C 26 dX10_isTalk_25 rfl ?_
      refine k_iconst C 27 (v := 1) (by decide) dX10_isTalk_26 rfl ?_
      refine k_iand C 28 dX10_isTalk_27 rfl ?_
      refine k_teq (y := nI (m / 2 ^ f % 2)) (shr12 f (by omega) m hm) ?_
      refine k_iconst C 29 (v := 1) (by decide) dX10_isTalk_28 rfl ?_
      refine k_icmp_ne C 55 32 dX10_isTalk_29 (by decide) rfl (fun c29 => ?_) (fun d29 => ?_)
      · skip
        have c29 := mt (nI_eq (by omega) (by omega)).mpr (show ¬ (nI (m / 2 ^ f % 2) = nI 1) from c29)
        refine k_iinc C 58 (nI (f + 1)) 4 [(4, .int (nI (f + 1))), (0, .ref (ga g 91)), (1, .int (nI m)), (2, .int (oI q)), (3, .int (b2i b))] rfl (iinc_p f) (by decide) rfl dX10_isTalk_55 rfl ?_
        refine k_goto C 7 dX10_isTalk_58 (by decide) ?_
        refine k_sub [(0, .ref (ga g 91)), (1, .int (nI m)), (2, .int (oI q)), (3, .int (b2i b)), (4, .int (nI (f + 1)))] [1, 2, 3, 4, 0] rfl ?_
        refine k_all (M' := M) (lo' := [(0, .ref (ga g 91)), (1, .int (nI m)), (2, .int (oI q)), (3, .int (b2i b)), (4, .int (nI (f + 1)))]) (st' := []) (by rfl) (by rfl) rfl ?_
        exact ih (f + 1, q, b) (show ((f + 1) ≤ n) ∧ (b = true → isTk (mF M) m (f + 1) = some q) ∧ (b = false → isTk (mF M) m (f + 1) = none) from by exact ⟨by omega, fun z => by rw [isTk_skip c29]; exact hT z, fun z => by rw [isTk_skip c29]; exact hF z⟩) (by show n - (f + 1) < n - f; omega)
      · skip
        have d29 := (nI_eq (by omega) (by omega)).mp (show nI (m / 2 ^ f % 2) = nI 1 from d29)
        refine k_iload_n C 33 2 rfl rfl dX10_isTalk_32 rfl ?_
        rcases q33 : q with _ | a
        · skip
          have q33n := q33
          refine k_teq (y := (-1)) rfl ?_
          refine k_lo (lo' := [(0, .ref (ga g 91)), (1, .int (nI m)), (2, .int (-1)), (3, .int (b2i b)), (4, .int (nI f))]) rfl ?_
          refine k_if_lt C 46 36 dX10_isTalk_33 (by decide) rfl (fun c33 => ?_) (fun d33 => ?_)
          · skip
            refine k_iconst C 47 (v := 1) (by decide) dX10_isTalk_46 rfl ?_
            refine k_goto C 51 dX10_isTalk_47 (by decide) ?_
            refine k_istore_n C 52 [(3, .int 1), (0, .ref (ga g 91)), (1, .int (nI m)), (2, .int (-1)), (4, .int (nI f))] rfl (by decide) rfl dX10_isTalk_51 rfl ?_
            refine k_iload C 54 4  rfl dX10_isTalk_52 rfl ?_
            refine k_istore_n C 55 [(2, .int (nI f)), (3, .int 1), (0, .ref (ga g 91)), (1, .int (nI m)), (4, .int (nI f))] rfl (by decide) rfl dX10_isTalk_54 rfl ?_
            refine k_iinc C 58 (nI (f + 1)) 4 [(4, .int (nI (f + 1))), (2, .int (nI f)), (3, .int 1), (0, .ref (ga g 91)), (1, .int (nI m))] rfl (iinc_p f) (by decide) rfl dX10_isTalk_55 rfl ?_
            refine k_goto C 7 dX10_isTalk_58 (by decide) ?_
            refine k_sub [(0, .ref (ga g 91)), (1, .int (nI m)), (2, .int (nI f)), (3, .int 1), (4, .int (nI (f + 1)))] [3, 4, 1, 2, 0] rfl ?_
            refine k_all (M' := M) (lo' := [(0, .ref (ga g 91)), (1, .int (nI m)), (2, .int (oI (some f))), (3, .int (b2i true)), (4, .int (nI (f + 1)))]) (st' := []) (by rfl) (by rfl) rfl ?_
            exact ih (f + 1, (some f), true) (show ((f + 1) ≤ n) ∧ (true = true → isTk (mF M) m (f + 1) = some (some f)) ∧ (true = false → isTk (mF M) m (f + 1) = none) from by exact ⟨by omega, fun _ => isTk_fst d29 (by rw [hT d19, q33n]), fun z => absurd z (by decide)⟩) (by show n - (f + 1) < n - f; omega)
          · skip
            exact absurd d33 (by decide)
        · skip
          have q33s := q33
          refine k_teq (y := nI a) rfl ?_
          refine k_lo (lo' := [(0, .ref (ga g 91)), (1, .int (nI m)), (2, .int (nI a)), (3, .int (b2i b)), (4, .int (nI f))]) rfl ?_
          have ha := isTk_lt (mF M) m f a (by rw [hT d19, q33s])
          refine k_if_lt C 46 36 dX10_isTalk_33 (by decide) rfl (fun c33 => ?_) (fun d33 => ?_)
          · skip
            have c33 := (nI_ltI (by omega) (by omega)).mp (show nI a < nI 0 from c33)
            exact absurd c33 (by omega)
          · skip
            have d33 := mt (nI_ltI (by omega) (by omega)).mpr (show ¬ (nI a < nI 0) from d33)
            refine k_aload_n C 37 0 rfl rfl dX10_isTalk_36 rfl ?_
            refine k_iload C 39 4  rfl dX10_isTalk_37 rfl ?_
            refine k_iload_n C 40 2 rfl rfl dX10_isTalk_39 rfl ?_
            refine k_callVE C 43 (As := [.int (nI f), .int (nI a)]) (st := []) 91 (by decide) (ce_91 g _) rfl rfl mwX10_70 vlX10_doesAnswer (qX10_doesAnswer l g M (a := f) (b := a) (by omega) (by omega)) mlX10_doesAnswer (by decide) (by decide) rfl rfl (Nat.le_of_ble_eq_true rfl) dX10_isTalk_40 rfl ?_
            refine k_if_eqB C 50 46 dX10_isTalk_43 (by decide) rfl (fun c43 => ?_) (fun d43 => ?_)
            · skip
              refine k_iconst C 51 (v := 0) (by decide) dX10_isTalk_50 rfl ?_
              refine k_istore_n C 52 [(3, .int 0), (0, .ref (ga g 91)), (1, .int (nI m)), (2, .int (nI a)), (4, .int (nI f))] rfl (by decide) rfl dX10_isTalk_51 rfl ?_
              refine k_iload C 54 4  rfl dX10_isTalk_52 rfl ?_
              refine k_istore_n C 55 [(2, .int (nI f)), (3, .int 0), (0, .ref (ga g 91)), (1, .int (nI m)), (4, .int (nI f))] rfl (by decide) rfl dX10_isTalk_54 rfl ?_
              refine k_iinc C 58 (nI (f + 1)) 4 [(4, .int (nI (f + 1))), (2, .int (nI f)), (3, .int 0), (0, .ref (ga g 91)), (1, .int (nI m))] rfl (iinc_p f) (by decide) rfl dX10_isTalk_55 rfl ?_
              refine k_goto C 7 dX10_isTalk_58 (by decide) ?_
              refine k_sub [(0, .ref (ga g 91)), (1, .int (nI m)), (2, .int (nI f)), (3, .int 0), (4, .int (nI (f + 1)))] [3, 4, 1, 2, 0] rfl ?_
              refine k_all (M' := M) (lo' := [(0, .ref (ga g 91)), (1, .int (nI m)), (2, .int (oI (some f))), (3, .int (b2i false)), (4, .int (nI (f + 1)))]) (st' := []) (by rfl) (by rfl) rfl ?_
              exact ih (f + 1, (some f), false) (show ((f + 1) ≤ n) ∧ (false = true → isTk (mF M) m (f + 1) = some (some f)) ∧ (false = false → isTk (mF M) m (f + 1) = none) from by exact ⟨by omega, fun z => absurd z (by decide), fun _ => isTk_bad d29 (by rw [hT d19, q33s]) c43⟩) (by show n - (f + 1) < n - f; omega)
            · skip
              refine k_iconst C 47 (v := 1) (by decide) dX10_isTalk_46 rfl ?_
              refine k_goto C 51 dX10_isTalk_47 (by decide) ?_
              refine k_istore_n C 52 [(3, .int 1), (0, .ref (ga g 91)), (1, .int (nI m)), (2, .int (nI a)), (4, .int (nI f))] rfl (by decide) rfl dX10_isTalk_51 rfl ?_
              refine k_iload C 54 4  rfl dX10_isTalk_52 rfl ?_
              refine k_istore_n C 55 [(2, .int (nI f)), (3, .int 1), (0, .ref (ga g 91)), (1, .int (nI m)), (4, .int (nI f))] rfl (by decide) rfl dX10_isTalk_54 rfl ?_
              refine k_iinc C 58 (nI (f + 1)) 4 [(4, .int (nI (f + 1))), (2, .int (nI f)), (3, .int 1), (0, .ref (ga g 91)), (1, .int (nI m))] rfl (iinc_p f) (by decide) rfl dX10_isTalk_55 rfl ?_
              refine k_goto C 7 dX10_isTalk_58 (by decide) ?_
              refine k_sub [(0, .ref (ga g 91)), (1, .int (nI m)), (2, .int (nI f)), (3, .int 1), (4, .int (nI (f + 1)))] [3, 4, 1, 2, 0] rfl ?_
              refine k_all (M' := M) (lo' := [(0, .ref (ga g 91)), (1, .int (nI m)), (2, .int (oI (some f))), (3, .int (b2i true)), (4, .int (nI (f + 1)))]) (st' := []) (by rfl) (by rfl) rfl ?_
              exact ih (f + 1, (some f), true) (show ((f + 1) ≤ n) ∧ (true = true → isTk (mF M) m (f + 1) = some (some f)) ∧ (true = false → isTk (mF M) m (f + 1) = none) from by exact ⟨by omega, fun _ => isTk_ans d29 (by rw [hT d19, q33s]) d43, fun z => absurd z (by decide)⟩) (by show n - (f + 1) < n - f; omega)
set_option maxHeartbeats 4000000 in
set_option maxRecDepth 20000 in
theorem qX10_fewest_f (l : Launch) (g : GT) (M : Mem) (w : Int32) (hf : (decide (0 ≤ w) && decide (w ≤ 1)) = false) : CtrE l g yX10_fewest cX10_fewest 5 (some .int) 3 [.ref (ga g 91), .int w] M (-1000000001) (mu M 95 1 (M 95 1 + 1)) := by
  refine ctrI_of (by decide +kernel) (Nat.le_of_ble_eq_true rfl) ?_
  intro pP eE RR sS mI aG bB mE cD C
  refine k_lo (lo' := [(0, .ref (ga g 91)), (1, .int w)]) rfl ?_
  refine k_iload_n C 1 1 rfl rfl dX10_fewest_0 rfl ?_
  refine k_iconst C 2 (v := 0) (by decide) dX10_fewest_1 rfl ?_
  refine k_iconst C 3 (v := 1) (by decide) dX10_fewest_2 rfl ?_
  refine k_callSE C 6 (As := [.int w, .int 0, .int 1]) (st := []) mwX10_54 skX10_in (qX10_in l g M w 0 1) mlX10_in (by decide) (by decide) rfl rfl (Nat.le_of_ble_eq_true rfl) dX10_fewest_3 rfl ?_
  refine k_if_neB C 16 9 dX10_fewest_6 (by decide) rfl (fun c6 => ?_) (fun d6 => ?_)
  · skip
    exact (bz hf (by simp [c6])).elim
  · skip
    refine k_aload_n C 10 0 rfl rfl dX10_fewest_9 rfl ?_
    refine k_ldc C 12 cwX10_94 dX10_fewest_10 rfl ?_
    refine k_callVE C 15 (As := [.int (-1000000001)]) (st := []) 91 (by decide) (ce_91 g _) rfl rfl mwX10_95 vlX10_error (qX10_error l g M (-1000000001) (k := 1) (by decide) (by decide)) mlX10_error (by decide) (by decide) rfl rfl (Nat.le_of_ble_eq_true rfl) dX10_fewest_12 rfl ?_
    refine k_ret C rfl dX10_fewest_15 ?_
    exact ⟨rfl, rfl⟩
set_option maxHeartbeats 4000000 in
set_option maxRecDepth 20000 in
theorem qX10_fewest_t (l : Launch) (g : GT) (M : Mem) {n : Nat} (hn : M 92 2 = nI n) (h12 : n ≤ 12) {w : Nat} (hw : w < 2) {A : Nat} (hA : pSet (mF M) n = A) : CtrE l g yX10_fewest cX10_fewest 5 (some .int) 3 [.ref (ga g 91), .int (nI w)] M (if w = 0 then nI (popc (fwB A (fun m => (isTk (mF M) m n).isSome) (A + 1) A)) else nI (fwB A (fun m => (isTk (mF M) m n).isSome) (A + 1) A)) M := by
  refine ctrI_of (by decide +kernel) (Nat.le_of_ble_eq_true rfl) ?_
  intro pP eE RR sS mI aG bB mE cD C
  refine k_lo (lo' := [(0, .ref (ga g 91)), (1, .int (nI w))]) rfl ?_
  have hA4 : A < 4096 := by rw [← hA]; exact (Nat.lt_of_lt_of_le (pSet_lt _ _) (Nat.pow_le_pow_right (by decide) h12))
  refine k_iload_n C 1 1 rfl rfl dX10_fewest_0 rfl ?_
  refine k_iconst C 2 (v := 0) (by decide) dX10_fewest_1 rfl ?_
  refine k_iconst C 3 (v := 1) (by decide) dX10_fewest_2 rfl ?_
  refine k_callSE C 6 (As := [.int (nI w), .int 0, .int 1]) (st := []) mwX10_54 skX10_in (qX10_in l g M (nI w) 0 1) mlX10_in (by decide) (by decide) rfl rfl (Nat.le_of_ble_eq_true rfl) dX10_fewest_3 rfl ?_
  refine k_if_neB C 16 9 dX10_fewest_6 (by decide) rfl (fun c6 => ?_) (fun d6 => ?_)
  · skip
    refine k_aload_n C 17 0 rfl rfl dX10_fewest_16 rfl ?_
    refine k_callVE C 20 (As := []) (st := []) 91 (by decide) (ce_91 g _) rfl rfl mwX10_184 vlX10_seen (qX10_seen l g M (n := n) hn h12) mlX10_seen (by decide) (by decide) rfl rfl (Nat.le_of_ble_eq_true rfl) dX10_fewest_17 rfl ?_
    refine k_teq (y := nI A) (by rw [hA]) ?_
    refine k_istore_n C 21 [(2, .int (nI A)), (0, .ref (ga g 91)), (1, .int (nI w))] rfl (by decide) rfl dX10_fewest_20 rfl ?_
    refine k_iload_n C 22 0 rfl rfl dX10_fewest_21 rfl ?_
    refine k_istore_n C 23 [(3, .int (nI A)), (2, .int (nI A)), (0, .ref (ga g 91)), (1, .int (nI w))] rfl (by decide) rfl dX10_fewest_22 rfl ?_
    refine k_iload_n C 24 1 rfl rfl dX10_fewest_23 rfl ?_
    refine k_istore C 26 [(4, .int (nI A)), (3, .int (nI A)), (2, .int (nI A)), (0, .ref (ga g 91)), (1, .int (nI w))]  (by decide) rfl dX10_fewest_24 rfl ?_
    refine k_sub [(0, .ref (ga g 91)), (1, .int (nI w)), (2, .int (nI A)), (3, .int (nI A)), (4, .int (nI A))] [3, 4, 2, 1, 0] rfl ?_
    refine k_all (M' := M) (lo' := [(0, .ref (ga g 91)), (1, .int (nI w)), (2, .int (nI A)), (3, .int (nI A)), (4, .int (nI (A + 1) - 1))]) (st' := []) (by rfl) (by rw [nI_pred]) rfl ?_
    refine k_loop (σ := Nat × Nat) (fun (v : Nat × Nat) => match v with | (j, b) => (j ≤ A + 1) ∧ (b ≤ A) ∧ (fwB A (fun m => (isTk (mF M) m n).isSome) (A + 1) A = fwB A (fun m => (isTk (mF M) m n).isSome) j b)) (fun (v : Nat × Nat) => match v with | (j, b) => j) (fun (v : Nat × Nat) => match v with | (j, b) => M) (fun (v : Nat × Nat) => match v with | (j, b) => [(0, .ref (ga g 91)), (1, .int (nI w)), (2, .int (nI A)), (3, .int (nI b)), (4, .int (nI j - 1))]) (A + 1, A) (show ((A + 1) ≤ A + 1) ∧ (A ≤ A) ∧ (fwB A (fun m => (isTk (mF M) m n).isSome) (A + 1) A = fwB A (fun m => (isTk (mF M) m n).isSome) (A + 1) A) from by exact ⟨Nat.le_refl _, Nat.le_refl _, rfl⟩) ?_
    rintro ⟨j, b⟩ hI ih
    have hI : (j ≤ A + 1) ∧ (b ≤ A) ∧ (fwB A (fun m => (isTk (mF M) m n).isSome) (A + 1) A = fwB A (fun m => (isTk (mF M) m n).isSome) j b) := hI
    obtain ⟨hj, hbA, he⟩ := hI
    show KW pP l eE RR sS mI aG bB mE cD g 5 _ (M) 26 [(0, .ref (ga g 91)), (1, .int (nI w)), (2, .int (nI A)), (3, .int (nI b)), (4, .int (nI j - 1))] []
    cases j with
    | zero =>
      refine k_lo (lo' := [(0, .ref (ga g 91)), (1, .int (nI w)), (2, .int (nI A)), (3, .int (nI b)), (4, .int (-1))]) (by rw [show nI 0 - 1 = (-1 : Int32) by decide]) ?_
      refine k_iload C 28 4  rfl dX10_fewest_26 rfl ?_
      refine k_if_lt C 78 31 dX10_fewest_28 (by decide) rfl (fun c28 => ?_) (fun d28 => ?_)
      · skip
        refine k_iload_n C 79 1 rfl rfl dX10_fewest_78 rfl ?_
        refine k_if_ne C 89 82 dX10_fewest_79 (by decide) rfl (fun c79 => ?_) (fun d79 => ?_)
        · skip
          have c79 := mt (nI_eq (by omega) (by omega)).mpr (show ¬ (nI w = nI 0) from c79)
          refine k_iload_n C 90 3 rfl rfl dX10_fewest_89 rfl ?_
          refine k_ret C rfl dX10_fewest_90 ?_
          exact ⟨by rw [if_neg c79, he]; first | done | rfl, rfl⟩
        · skip
          have d79 := (nI_eq (by omega) (by omega)).mp (show nI w = nI 0 from d79)
          refine k_iload_n C 83 3 rfl rfl dX10_fewest_82 rfl ?_
          refine k_callSE C 86 (As := [.int (nI b)]) (st := []) mwX10_187 skX10_bits (qX10_bits l g M (m := b) (by omega)) mlX10_bits (by decide) (by decide) rfl rfl (Nat.le_of_ble_eq_true rfl) dX10_fewest_83 rfl ?_
          refine k_goto C 90 dX10_fewest_86 (by decide) ?_
          refine k_ret C rfl dX10_fewest_90 ?_
          exact ⟨by rw [if_pos d79, he]; first | done | rfl, rfl⟩
      · skip
        exact absurd d28 (by decide)
    | succ j =>
      refine k_lo (lo' := [(0, .ref (ga g 91)), (1, .int (nI w)), (2, .int (nI A)), (3, .int (nI b)), (4, .int (nI j))]) (by rw [nI_pred]) ?_
      refine k_iload C 28 4  rfl dX10_fewest_26 rfl ?_
      refine k_if_lt C 78 31 dX10_fewest_28 (by decide) rfl (fun c28 => ?_) (fun d28 => ?_)
      · skip
        have c28 := (nI_ltI (by omega) (by omega)).mp (show nI j < nI 0 from c28)
        exact absurd c28 (by omega)
      · skip
        have d28 := mt (nI_ltI (by omega) (by omega)).mpr (show ¬ (nI j < nI 0) from d28)
        have hl := andn_lt (a := j) (b := A) (by omega)
        have hp1 := popc_le j
        have hp2 := popc_le b
        refine k_iload C 33 4  rfl dX10_fewest_31 rfl ?_
        refine k_iload_n C 34 2 rfl rfl dX10_fewest_33 rfl ?_
        refine k_iconst C 35 (v := (-1)) (by decide) dX10_fewest_34 rfl ?_
        refine k_ixor C 36 dX10_fewest_35 rfl ?_
        refine k_iand C 37 dX10_fewest_36 rfl ?_
        refine k_teq (y := nI (j &&& (4095 ^^^ A))) (andn12 (by omega) hA4) ?_
        refine k_if_ne C 72 40 dX10_fewest_37 (by decide) rfl (fun c37 => ?_) (fun d37 => ?_)
        · skip
          have c37 := mt (nI_eq (by omega) (by omega)).mpr (show ¬ (nI (j &&& (4095 ^^^ A)) = nI 0) from c37)
          refine k_iinc C 75 (nI j - 1) 4 [(4, .int (nI j - 1)), (0, .ref (ga g 91)), (1, .int (nI w)), (2, .int (nI A)), (3, .int (nI b))] rfl (iinc_m _) (by decide) rfl dX10_fewest_72 rfl ?_
          refine k_goto C 26 dX10_fewest_75 (by decide) ?_
          refine k_sub [(0, .ref (ga g 91)), (1, .int (nI w)), (2, .int (nI A)), (3, .int (nI b)), (4, .int (nI j - 1))] [1, 2, 3, 4, 0] rfl ?_
          refine k_all (M' := M) (lo' := [(0, .ref (ga g 91)), (1, .int (nI w)), (2, .int (nI A)), (3, .int (nI b)), (4, .int (nI j - 1))]) (st' := []) (by rfl) (by rfl) rfl ?_
          exact ih (j, b) (show (j ≤ A + 1) ∧ (b ≤ A) ∧ (fwB A (fun m => (isTk (mF M) m n).isSome) (A + 1) A = fwB A (fun m => (isTk (mF M) m n).isSome) j b) from by exact ⟨by omega, by omega, by rw [he, fwB_n (fun q => c37 q.1)]⟩) (by show j < j + 1; omega)
        · skip
          have d37 := (nI_eq (by omega) (by omega)).mp (show nI (j &&& (4095 ^^^ A)) = nI 0 from d37)
          refine k_iload C 42 4  rfl dX10_fewest_40 rfl ?_
          refine k_callSE C 45 (As := [.int (nI j)]) (st := []) mwX10_187 skX10_bits (qX10_bits l g M (m := j) (by omega)) mlX10_bits (by decide) (by decide) rfl rfl (Nat.le_of_ble_eq_true rfl) dX10_fewest_42 rfl ?_
          refine k_iload_n C 46 3 rfl rfl dX10_fewest_45 rfl ?_
          refine k_callSE C 49 (As := [.int (nI b)]) (st := [.int (nI (popc j))]) mwX10_187 skX10_bits (qX10_bits l g M (m := b) (by omega)) mlX10_bits (by decide) (by decide) rfl rfl (Nat.le_of_ble_eq_true rfl) dX10_fewest_46 rfl ?_
          refine k_icmp_gt C 72 52 dX10_fewest_49 (by decide) rfl (fun c49 => ?_) (fun d49 => ?_)
          · skip
            have c49 := (nI_ltI (by omega) (by omega)).mp (show nI (popc b) < nI (popc j) from c49)
            refine k_iinc C 75 (nI j - 1) 4 [(4, .int (nI j - 1)), (0, .ref (ga g 91)), (1, .int (nI w)), (2, .int (nI A)), (3, .int (nI b))] rfl (iinc_m _) (by decide) rfl dX10_fewest_72 rfl ?_
            refine k_goto C 26 dX10_fewest_75 (by decide) ?_
            refine k_sub [(0, .ref (ga g 91)), (1, .int (nI w)), (2, .int (nI A)), (3, .int (nI b)), (4, .int (nI j - 1))] [1, 2, 3, 4, 0] rfl ?_
            refine k_all (M' := M) (lo' := [(0, .ref (ga g 91)), (1, .int (nI w)), (2, .int (nI A)), (3, .int (nI b)), (4, .int (nI j - 1))]) (st' := []) (by rfl) (by rfl) rfl ?_
            exact ih (j, b) (show (j ≤ A + 1) ∧ (b ≤ A) ∧ (fwB A (fun m => (isTk (mF M) m n).isSome) (A + 1) A = fwB A (fun m => (isTk (mF M) m n).isSome) j b) from by exact ⟨by omega, by omega, by rw [he, fwB_n (fun q => absurd q.2.1 (by omega))]⟩) (by show j < j + 1; omega)
          · skip
            have d49 := mt (nI_ltI (by omega) (by omega)).mpr (show ¬ (nI (popc b) < nI (popc j)) from d49)
            refine k_aload_n C 53 0 rfl rfl dX10_fewest_52 rfl ?_
            refine k_iload_n C 54 2 rfl rfl dX10_fewest_53 rfl ?_
            refine k_iload C 56 4  rfl dX10_fewest_54 rfl ?_
            refine k_iconst C 57 (v := (-1)) (by decide) dX10_fewest_56 rfl ?_
            refine k_ixor C 58 dX10_fewest_57 rfl ?_
            refine k_iand C 59 dX10_fewest_58 rfl ?_
            refine k_teq (y := nI (A &&& (4095 ^^^ j))) (andn12 hA4 (by omega)) ?_
            refine k_callVE C 62 (As := [.int (nI (A &&& (4095 ^^^ j)))]) (st := []) 91 (by decide) (ce_91 g _) rfl rfl mwX10_209 vlX10_isTalk (qX10_isTalk l g M hn h12 (m := A &&& (4095 ^^^ j)) (andn_lt hA4)) mlX10_isTalk (by decide) (by decide) rfl rfl (Nat.le_of_ble_eq_true rfl) dX10_fewest_59 rfl ?_
            refine k_if_eqB C 70 65 dX10_fewest_62 (by decide) rfl (fun c62 => ?_) (fun d62 => ?_)
            · skip
              refine k_iload_n C 71 3 rfl rfl dX10_fewest_70 rfl ?_
              refine k_istore_n C 72 [(3, .int (nI b)), (0, .ref (ga g 91)), (1, .int (nI w)), (2, .int (nI A)), (4, .int (nI j))] rfl (by decide) rfl dX10_fewest_71 rfl ?_
              refine k_iinc C 75 (nI j - 1) 4 [(4, .int (nI j - 1)), (3, .int (nI b)), (0, .ref (ga g 91)), (1, .int (nI w)), (2, .int (nI A))] rfl (iinc_m _) (by decide) rfl dX10_fewest_72 rfl ?_
              refine k_goto C 26 dX10_fewest_75 (by decide) ?_
              refine k_sub [(0, .ref (ga g 91)), (1, .int (nI w)), (2, .int (nI A)), (3, .int (nI b)), (4, .int (nI j - 1))] [2, 3, 4, 1, 0] rfl ?_
              refine k_all (M' := M) (lo' := [(0, .ref (ga g 91)), (1, .int (nI w)), (2, .int (nI A)), (3, .int (nI b)), (4, .int (nI j - 1))]) (st' := []) (by rfl) (by rfl) rfl ?_
              exact ih (j, b) (show (j ≤ A + 1) ∧ (b ≤ A) ∧ (fwB A (fun m => (isTk (mF M) m n).isSome) (A + 1) A = fwB A (fun m => (isTk (mF M) m n).isSome) j b) from by exact ⟨by omega, by omega, by rw [he, fwB_n (fun q => bz c62 q.2.2)]⟩) (by show j < j + 1; omega)
            · skip
              refine k_iload C 67 4  rfl dX10_fewest_65 rfl ?_
              refine k_goto C 71 dX10_fewest_67 (by decide) ?_
              refine k_istore_n C 72 [(3, .int (nI j)), (0, .ref (ga g 91)), (1, .int (nI w)), (2, .int (nI A)), (4, .int (nI j))] rfl (by decide) rfl dX10_fewest_71 rfl ?_
              refine k_iinc C 75 (nI j - 1) 4 [(4, .int (nI j - 1)), (3, .int (nI j)), (0, .ref (ga g 91)), (1, .int (nI w)), (2, .int (nI A))] rfl (iinc_m _) (by decide) rfl dX10_fewest_72 rfl ?_
              refine k_goto C 26 dX10_fewest_75 (by decide) ?_
              refine k_sub [(0, .ref (ga g 91)), (1, .int (nI w)), (2, .int (nI A)), (3, .int (nI j)), (4, .int (nI j - 1))] [2, 3, 4, 1, 0] rfl ?_
              refine k_all (M' := M) (lo' := [(0, .ref (ga g 91)), (1, .int (nI w)), (2, .int (nI A)), (3, .int (nI j)), (4, .int (nI j - 1))]) (st' := []) (by rfl) (by rfl) rfl ?_
              exact ih (j, j) (show (j ≤ A + 1) ∧ (j ≤ A) ∧ (fwB A (fun m => (isTk (mF M) m n).isSome) (A + 1) A = fwB A (fun m => (isTk (mF M) m n).isSome) j j) from by exact ⟨by omega, by omega, by rw [he, fwB_y d37 (by omega) d62]⟩) (by show j < j + 1; omega)
  · skip
    exact (bz d6 (rg_le (a := 0) (b := 1) (Nat.zero_le _) (by omega) (by decide))).elim
set_option maxHeartbeats 4000000 in
set_option maxRecDepth 20000 in
theorem qX10_stepCost (l : Launch) (g : GT) (M : Mem) {a b : Nat} (ha : a < 72) (hb : b < 72) {n1 : Nat} (p : Nat → Int32) (hL : mlawOk M 0 n1 p) : CtrI l g yX10_stepCost cX10_stepCost 6 (some .int) 3 [.ref (ga g 91), .int (nI a), .int (nI b)] M (fun r M1 => r = pSt n1 p (M 92 3) a b ∧ ∀ q, q ≠ 101 → q ≠ 102 → M1 q = M q) := by
  refine ctrI_of (by decide +kernel) (Nat.le_of_ble_eq_true rfl) ?_
  intro pP eE RR sS mI aG bB mE cD C
  refine k_lo (lo' := [(0, .ref (ga g 91)), (1, .int (nI a)), (2, .int (nI b))]) rfl ?_
  refine k_iload_n C 1 1 rfl rfl dX10_stepCost_0 rfl ?_
  refine k_bipush C 3 (v := 6) (by decide) dX10_stepCost_1 rfl ?_
  refine k_idiv C 4 (by decide) dX10_stepCost_3 rfl ?_
  refine k_teq (pk_div (a := a) (d := 6) (by omega) (by decide) (by decide)) ?_
  refine k_iload_n C 5 2 rfl rfl dX10_stepCost_4 rfl ?_
  refine k_bipush C 7 (v := 6) (by decide) dX10_stepCost_5 rfl ?_
  refine k_idiv C 8 (by decide) dX10_stepCost_7 rfl ?_
  refine k_teq (pk_div (a := b) (d := 6) (by omega) (by decide) (by decide)) ?_
  refine k_isub C 9 dX10_stepCost_8 rfl ?_
  refine k_istore_n C 10 [(3, .int ((nI (a / 6)) - (nI (b / 6)))), (0, .ref (ga g 91)), (1, .int (nI a)), (2, .int (nI b))] rfl (by decide) rfl dX10_stepCost_9 rfl ?_
  refine k_iload_n C 11 2 rfl rfl dX10_stepCost_10 rfl ?_
  refine k_bipush C 13 (v := 6) (by decide) dX10_stepCost_11 rfl ?_
  refine k_irem C 14 (by decide) dX10_stepCost_13 rfl ?_
  refine k_teq (pk_rem (a := a) (d := 6) (by omega) (by decide) (by decide)) ?_
  refine k_iload_n C 15 3 rfl rfl dX10_stepCost_14 rfl ?_
  refine k_bipush C 17 (v := 6) (by decide) dX10_stepCost_15 rfl ?_
  refine k_irem C 18 (by decide) dX10_stepCost_17 rfl ?_
  refine k_teq (pk_rem (a := b) (d := 6) (by omega) (by decide) (by decide)) ?_
  refine k_isub C 19 dX10_stepCost_18 rfl ?_
  refine k_istore C 21 [(4, .int ((nI (a % 6)) - (nI (b % 6)))), (3, .int ((nI (a / 6)) - (nI (b / 6)))), (0, .ref (ga g 91)), (1, .int (nI a)), (2, .int (nI b))]  (by decide) rfl dX10_stepCost_19 rfl ?_
  refine k_iload_n C 22 1 rfl rfl dX10_stepCost_21 rfl ?_
  refine k_if_ne C 29 25 dX10_stepCost_22 (by decide) rfl (fun c22 => ?_) (fun d22 => ?_)
  · skip
    refine k_iconst C 30 (v := 0) (by decide) dX10_stepCost_29 rfl ?_
    refine k_iload C 32 0  rfl dX10_stepCost_30 rfl ?_
    refine k_if_ne C 39 35 dX10_stepCost_32 (by decide) rfl (fun c32 => ?_) (fun d32 => ?_)
    · skip
      refine k_iconst C 40 (v := 0) (by decide) dX10_stepCost_39 rfl ?_
      refine k_icmp_eq C 47 43 dX10_stepCost_40 (by decide) rfl (fun c40 => ?_) (fun d40 => ?_)
      · skip
        refine k_iconst C 48 (v := 0) (by decide) dX10_stepCost_47 rfl ?_
        refine k_istore C 50 [(5, .int 0), (4, .int ((nI (a % 6)) - (nI (b % 6)))), (3, .int ((nI (a / 6)) - (nI (b / 6)))), (0, .ref (ga g 91)), (1, .int (nI a)), (2, .int (nI b))]  (by decide) rfl dX10_stepCost_48 rfl ?_
        refine k_iload C 52 0  rfl dX10_stepCost_50 rfl ?_
        refine k_if_eq C 92 55 dX10_stepCost_52 (by decide) rfl (fun c52 => ?_) (fun d52 => ?_)
        · skip
          refine k_iconst C 93 (v := (-1)) (by decide) dX10_stepCost_92 rfl ?_
          refine k_ret C rfl dX10_stepCost_93 ?_
          have e22 : ¬ a / 6 = b / 6 := mt (nI_subz (by omega) (by omega)).mpr c22
          have e32 : ¬ a % 6 = b % 6 := mt (nI_subz (by omega) (by omega)).mpr c32
          exact ⟨by unfold pSt; rw [if_pos (by simp [e22, e32])], fun _ _ _ => rfl⟩
        · skip
          exact absurd d52 (by decide)
      · skip
        exact absurd d40 (by decide)
    · skip
      refine k_iconst C 36 (v := 1) (by decide) dX10_stepCost_35 rfl ?_
      refine k_goto C 40 dX10_stepCost_36 (by decide) ?_
      refine k_icmp_eq C 47 43 dX10_stepCost_40 (by decide) rfl (fun c40 => ?_) (fun d40 => ?_)
      · skip
        exact absurd c40 (by decide)
      · skip
        refine k_iconst C 44 (v := 1) (by decide) dX10_stepCost_43 rfl ?_
        refine k_goto C 48 dX10_stepCost_44 (by decide) ?_
        refine k_istore C 50 [(5, .int 1), (4, .int ((nI (a % 6)) - (nI (b % 6)))), (3, .int ((nI (a / 6)) - (nI (b / 6)))), (0, .ref (ga g 91)), (1, .int (nI a)), (2, .int (nI b))]  (by decide) rfl dX10_stepCost_48 rfl ?_
        refine k_iload C 52 0  rfl dX10_stepCost_50 rfl ?_
        refine k_if_eq C 92 55 dX10_stepCost_52 (by decide) rfl (fun c52 => ?_) (fun d52 => ?_)
        · skip
          exact absurd c52 (by decide)
        · skip
          refine k_aload_n C 56 3 rfl rfl dX10_stepCost_55 rfl ?_
          refine k_iconst C 57 (v := 0) (by decide) dX10_stepCost_56 rfl ?_
          refine k_iload_n C 58 2 rfl rfl dX10_stepCost_57 rfl ?_
          refine k_if_ge C 66 61 dX10_stepCost_58 (by decide) rfl (fun c58 => ?_) (fun d58 => ?_)
          · skip
            refine k_iload_n C 67 2 rfl rfl dX10_stepCost_66 rfl ?_
            refine k_iload C 69 1  rfl dX10_stepCost_67 rfl ?_
            refine k_if_ge C 78 72 dX10_stepCost_69 (by decide) rfl (fun c69 => ?_) (fun d69 => ?_)
            · skip
              refine k_iload C 80 1  rfl dX10_stepCost_78 rfl ?_
              refine k_aload_n C 81 3 rfl rfl dX10_stepCost_80 rfl ?_
              refine k_get C 84 flX10_9 91 (by decide) (v := .ref (ga g 92)) (ce_91 g _) rfl dX10_stepCost_81 rfl ?_
              refine k_iconst C 85 (v := 3) (by decide) dX10_stepCost_84 rfl ?_
              refine k_iald C 86 92 3 (by decide) (ce_92 g) (by decide) rfl (by omega) dX10_stepCost_85 rfl ?_
              refine k_callVI C 89 (As := [.int 0, .int ((nI (a / 6)) - (nI (b / 6))), .int ((nI (a % 6)) - (nI (b % 6))), .int (M 92 3)]) (st := []) 91 (by decide) (ce_91 g _) rfl rfl mwX10_80 vlX10_gives (qX10_gives l g M (u := 0) (n := n1) (by omega) p hL ((nI (a / 6)) - (nI (b / 6))) ((nI (a % 6)) - (nI (b % 6))) (M 92 3)) mlX10_gives (by decide) (by decide) rfl rfl (Nat.le_of_ble_eq_true rfl) dX10_stepCost_86 rfl (fun r1 M1 h1 => ?_)
              obtain ⟨hr1, hs1⟩ := h1
              refine k_goto C 93 dX10_stepCost_89 (by decide) ?_
              refine k_ret C rfl dX10_stepCost_93 ?_
              have e22 : ¬ a / 6 = b / 6 := mt (nI_subz (by omega) (by omega)).mpr c22
              have e32 : a % 6 = b % 6 := (nI_subz (by omega) (by omega)).mp d32
              exact ⟨by rw [hr1, nI_sp (by omega) (by omega) (Int32.not_lt.mpr c58), nI_sp (by omega) (by omega) (Int32.not_lt.mpr c69)]; unfold pSt; rw [if_neg (by simp [e22, e32])], hs1⟩
            · skip
              refine k_iload C 74 1  rfl dX10_stepCost_72 rfl ?_
              refine k_ineg C 75 dX10_stepCost_74 rfl ?_
              refine k_goto C 80 dX10_stepCost_75 (by decide) ?_
              refine k_aload_n C 81 3 rfl rfl dX10_stepCost_80 rfl ?_
              refine k_get C 84 flX10_9 91 (by decide) (v := .ref (ga g 92)) (ce_91 g _) rfl dX10_stepCost_81 rfl ?_
              refine k_iconst C 85 (v := 3) (by decide) dX10_stepCost_84 rfl ?_
              refine k_iald C 86 92 3 (by decide) (ce_92 g) (by decide) rfl (by omega) dX10_stepCost_85 rfl ?_
              refine k_callVI C 89 (As := [.int 0, .int ((nI (a / 6)) - (nI (b / 6))), .int (-((nI (a % 6)) - (nI (b % 6)))), .int (M 92 3)]) (st := []) 91 (by decide) (ce_91 g _) rfl rfl mwX10_80 vlX10_gives (qX10_gives l g M (u := 0) (n := n1) (by omega) p hL ((nI (a / 6)) - (nI (b / 6))) (-((nI (a % 6)) - (nI (b % 6)))) (M 92 3)) mlX10_gives (by decide) (by decide) rfl rfl (Nat.le_of_ble_eq_true rfl) dX10_stepCost_86 rfl (fun r2 M2 h2 => ?_)
              obtain ⟨hr2, hs2⟩ := h2
              refine k_goto C 93 dX10_stepCost_89 (by decide) ?_
              refine k_ret C rfl dX10_stepCost_93 ?_
              have e22 : ¬ a / 6 = b / 6 := mt (nI_subz (by omega) (by omega)).mpr c22
              have e32 : a % 6 = b % 6 := (nI_subz (by omega) (by omega)).mp d32
              exact ⟨by rw [hr2, nI_sp (by omega) (by omega) (Int32.not_lt.mpr c58), nI_sn (by omega) (by omega) (Int32.not_le.mp d69)]; unfold pSt; rw [if_neg (by simp [e22, e32])], hs2⟩
          · skip
            refine k_iload_n C 62 2 rfl rfl dX10_stepCost_61 rfl ?_
            refine k_ineg C 63 dX10_stepCost_62 rfl ?_
            refine k_goto C 67 dX10_stepCost_63 (by decide) ?_
            refine k_iload C 69 1  rfl dX10_stepCost_67 rfl ?_
            refine k_if_ge C 78 72 dX10_stepCost_69 (by decide) rfl (fun c69 => ?_) (fun d69 => ?_)
            · skip
              refine k_iload C 80 1  rfl dX10_stepCost_78 rfl ?_
              refine k_aload_n C 81 3 rfl rfl dX10_stepCost_80 rfl ?_
              refine k_get C 84 flX10_9 91 (by decide) (v := .ref (ga g 92)) (ce_91 g _) rfl dX10_stepCost_81 rfl ?_
              refine k_iconst C 85 (v := 3) (by decide) dX10_stepCost_84 rfl ?_
              refine k_iald C 86 92 3 (by decide) (ce_92 g) (by decide) rfl (by omega) dX10_stepCost_85 rfl ?_
              refine k_callVI C 89 (As := [.int 0, .int (-((nI (a / 6)) - (nI (b / 6)))), .int ((nI (a % 6)) - (nI (b % 6))), .int (M 92 3)]) (st := []) 91 (by decide) (ce_91 g _) rfl rfl mwX10_80 vlX10_gives (qX10_gives l g M (u := 0) (n := n1) (by omega) p hL (-((nI (a / 6)) - (nI (b / 6)))) ((nI (a % 6)) - (nI (b % 6))) (M 92 3)) mlX10_gives (by decide) (by decide) rfl rfl (Nat.le_of_ble_eq_true rfl) dX10_stepCost_86 rfl (fun r3 M3 h3 => ?_)
              obtain ⟨hr3, hs3⟩ := h3
              refine k_goto C 93 dX10_stepCost_89 (by decide) ?_
              refine k_ret C rfl dX10_stepCost_93 ?_
              have e22 : ¬ a / 6 = b / 6 := mt (nI_subz (by omega) (by omega)).mpr c22
              have e32 : a % 6 = b % 6 := (nI_subz (by omega) (by omega)).mp d32
              exact ⟨by rw [hr3, nI_sn (by omega) (by omega) (Int32.not_le.mp d58), nI_sp (by omega) (by omega) (Int32.not_lt.mpr c69)]; unfold pSt; rw [if_neg (by simp [e22, e32])], hs3⟩
            · skip
              refine k_iload C 74 1  rfl dX10_stepCost_72 rfl ?_
              refine k_ineg C 75 dX10_stepCost_74 rfl ?_
              refine k_goto C 80 dX10_stepCost_75 (by decide) ?_
              refine k_aload_n C 81 3 rfl rfl dX10_stepCost_80 rfl ?_
              refine k_get C 84 flX10_9 91 (by decide) (v := .ref (ga g 92)) (ce_91 g _) rfl dX10_stepCost_81 rfl ?_
              refine k_iconst C 85 (v := 3) (by decide) dX10_stepCost_84 rfl ?_
              refine k_iald C 86 92 3 (by decide) (ce_92 g) (by decide) rfl (by omega) dX10_stepCost_85 rfl ?_
              refine k_callVI C 89 (As := [.int 0, .int (-((nI (a / 6)) - (nI (b / 6)))), .int (-((nI (a % 6)) - (nI (b % 6)))), .int (M 92 3)]) (st := []) 91 (by decide) (ce_91 g _) rfl rfl mwX10_80 vlX10_gives (qX10_gives l g M (u := 0) (n := n1) (by omega) p hL (-((nI (a / 6)) - (nI (b / 6)))) (-((nI (a % 6)) - (nI (b % 6)))) (M 92 3)) mlX10_gives (by decide) (by decide) rfl rfl (Nat.le_of_ble_eq_true rfl) dX10_stepCost_86 rfl (fun r4 M4 h4 => ?_)
              obtain ⟨hr4, hs4⟩ := h4
              refine k_goto C 93 dX10_stepCost_89 (by decide) ?_
              refine k_ret C rfl dX10_stepCost_93 ?_
              have e22 : ¬ a / 6 = b / 6 := mt (nI_subz (by omega) (by omega)).mpr c22
              have e32 : a % 6 = b % 6 := (nI_subz (by omega) (by omega)).mp d32
              exact ⟨by rw [hr4, nI_sn (by omega) (by omega) (Int32.not_le.mp d58), nI_sn (by omega) (by omega) (Int32.not_le.mp d69)]; unfold pSt; rw [if_neg (by simp [e22, e32])], hs4⟩
  · skip
    refine k_iconst C 26 (v := 1) (by decide) dX10_stepCost_25 rfl ?_
    refine k_goto C 30 dX10_stepCost_26 (by decide) ?_
    refine k_iload C 32 0  rfl dX10_stepCost_30 rfl ?_
    refine k_if_ne C 39 35 dX10_stepCost_32 (by decide) rfl (fun c32 => ?_) (fun d32 => ?_)
    · skip
      refine k_iconst C 40 (v := 0) (by decide) dX10_stepCost_39 rfl ?_
      refine k_icmp_eq C 47 43 dX10_stepCost_40 (by decide) rfl (fun c40 => ?_) (fun d40 => ?_)
      · skip
        exact absurd c40 (by decide)
      · skip
        refine k_iconst C 44 (v := 1) (by decide) dX10_stepCost_43 rfl ?_
        refine k_goto C 48 dX10_stepCost_44 (by decide) ?_
        refine k_istore C 50 [(5, .int 1), (4, .int ((nI (a % 6)) - (nI (b % 6)))), (3, .int ((nI (a / 6)) - (nI (b / 6)))), (0, .ref (ga g 91)), (1, .int (nI a)), (2, .int (nI b))]  (by decide) rfl dX10_stepCost_48 rfl ?_
        refine k_iload C 52 0  rfl dX10_stepCost_50 rfl ?_
        refine k_if_eq C 92 55 dX10_stepCost_52 (by decide) rfl (fun c52 => ?_) (fun d52 => ?_)
        · skip
          exact absurd c52 (by decide)
        · skip
          refine k_aload_n C 56 3 rfl rfl dX10_stepCost_55 rfl ?_
          refine k_iconst C 57 (v := 0) (by decide) dX10_stepCost_56 rfl ?_
          refine k_iload_n C 58 2 rfl rfl dX10_stepCost_57 rfl ?_
          refine k_if_ge C 66 61 dX10_stepCost_58 (by decide) rfl (fun c58 => ?_) (fun d58 => ?_)
          · skip
            refine k_iload_n C 67 2 rfl rfl dX10_stepCost_66 rfl ?_
            refine k_iload C 69 1  rfl dX10_stepCost_67 rfl ?_
            refine k_if_ge C 78 72 dX10_stepCost_69 (by decide) rfl (fun c69 => ?_) (fun d69 => ?_)
            · skip
              refine k_iload C 80 1  rfl dX10_stepCost_78 rfl ?_
              refine k_aload_n C 81 3 rfl rfl dX10_stepCost_80 rfl ?_
              refine k_get C 84 flX10_9 91 (by decide) (v := .ref (ga g 92)) (ce_91 g _) rfl dX10_stepCost_81 rfl ?_
              refine k_iconst C 85 (v := 3) (by decide) dX10_stepCost_84 rfl ?_
              refine k_iald C 86 92 3 (by decide) (ce_92 g) (by decide) rfl (by omega) dX10_stepCost_85 rfl ?_
              refine k_callVI C 89 (As := [.int 0, .int ((nI (a / 6)) - (nI (b / 6))), .int ((nI (a % 6)) - (nI (b % 6))), .int (M 92 3)]) (st := []) 91 (by decide) (ce_91 g _) rfl rfl mwX10_80 vlX10_gives (qX10_gives l g M (u := 0) (n := n1) (by omega) p hL ((nI (a / 6)) - (nI (b / 6))) ((nI (a % 6)) - (nI (b % 6))) (M 92 3)) mlX10_gives (by decide) (by decide) rfl rfl (Nat.le_of_ble_eq_true rfl) dX10_stepCost_86 rfl (fun r5 M5 h5 => ?_)
              obtain ⟨hr5, hs5⟩ := h5
              refine k_goto C 93 dX10_stepCost_89 (by decide) ?_
              refine k_ret C rfl dX10_stepCost_93 ?_
              have e22 : a / 6 = b / 6 := (nI_subz (by omega) (by omega)).mp d22
              have e32 : ¬ a % 6 = b % 6 := mt (nI_subz (by omega) (by omega)).mpr c32
              exact ⟨by rw [hr5, nI_sp (by omega) (by omega) (Int32.not_lt.mpr c58), nI_sp (by omega) (by omega) (Int32.not_lt.mpr c69)]; unfold pSt; rw [if_neg (by simp [e22, e32])], hs5⟩
            · skip
              refine k_iload C 74 1  rfl dX10_stepCost_72 rfl ?_
              refine k_ineg C 75 dX10_stepCost_74 rfl ?_
              refine k_goto C 80 dX10_stepCost_75 (by decide) ?_
              refine k_aload_n C 81 3 rfl rfl dX10_stepCost_80 rfl ?_
              refine k_get C 84 flX10_9 91 (by decide) (v := .ref (ga g 92)) (ce_91 g _) rfl dX10_stepCost_81 rfl ?_
              refine k_iconst C 85 (v := 3) (by decide) dX10_stepCost_84 rfl ?_
              refine k_iald C 86 92 3 (by decide) (ce_92 g) (by decide) rfl (by omega) dX10_stepCost_85 rfl ?_
              refine k_callVI C 89 (As := [.int 0, .int ((nI (a / 6)) - (nI (b / 6))), .int (-((nI (a % 6)) - (nI (b % 6)))), .int (M 92 3)]) (st := []) 91 (by decide) (ce_91 g _) rfl rfl mwX10_80 vlX10_gives (qX10_gives l g M (u := 0) (n := n1) (by omega) p hL ((nI (a / 6)) - (nI (b / 6))) (-((nI (a % 6)) - (nI (b % 6)))) (M 92 3)) mlX10_gives (by decide) (by decide) rfl rfl (Nat.le_of_ble_eq_true rfl) dX10_stepCost_86 rfl (fun r6 M6 h6 => ?_)
              obtain ⟨hr6, hs6⟩ := h6
              refine k_goto C 93 dX10_stepCost_89 (by decide) ?_
              refine k_ret C rfl dX10_stepCost_93 ?_
              have e22 : a / 6 = b / 6 := (nI_subz (by omega) (by omega)).mp d22
              have e32 : ¬ a % 6 = b % 6 := mt (nI_subz (by omega) (by omega)).mpr c32
              exact ⟨by rw [hr6, nI_sp (by omega) (by omega) (Int32.not_lt.mpr c58), nI_sn (by omega) (by omega) (Int32.not_le.mp d69)]; unfold pSt; rw [if_neg (by simp [e22, e32])], hs6⟩
          · skip
            refine k_iload_n C 62 2 rfl rfl dX10_stepCost_61 rfl ?_
            refine k_ineg C 63 dX10_stepCost_62 rfl ?_
            refine k_goto C 67 dX10_stepCost_63 (by decide) ?_
            refine k_iload C 69 1  rfl dX10_stepCost_67 rfl ?_
            refine k_if_ge C 78 72 dX10_stepCost_69 (by decide) rfl (fun c69 => ?_) (fun d69 => ?_)
            · skip
              refine k_iload C 80 1  rfl dX10_stepCost_78 rfl ?_
              refine k_aload_n C 81 3 rfl rfl dX10_stepCost_80 rfl ?_
              refine k_get C 84 flX10_9 91 (by decide) (v := .ref (ga g 92)) (ce_91 g _) rfl dX10_stepCost_81 rfl ?_
              refine k_iconst C 85 (v := 3) (by decide) dX10_stepCost_84 rfl ?_
              refine k_iald C 86 92 3 (by decide) (ce_92 g) (by decide) rfl (by omega) dX10_stepCost_85 rfl ?_
              refine k_callVI C 89 (As := [.int 0, .int (-((nI (a / 6)) - (nI (b / 6)))), .int ((nI (a % 6)) - (nI (b % 6))), .int (M 92 3)]) (st := []) 91 (by decide) (ce_91 g _) rfl rfl mwX10_80 vlX10_gives (qX10_gives l g M (u := 0) (n := n1) (by omega) p hL (-((nI (a / 6)) - (nI (b / 6)))) ((nI (a % 6)) - (nI (b % 6))) (M 92 3)) mlX10_gives (by decide) (by decide) rfl rfl (Nat.le_of_ble_eq_true rfl) dX10_stepCost_86 rfl (fun r7 M7 h7 => ?_)
              obtain ⟨hr7, hs7⟩ := h7
              refine k_goto C 93 dX10_stepCost_89 (by decide) ?_
              refine k_ret C rfl dX10_stepCost_93 ?_
              have e22 : a / 6 = b / 6 := (nI_subz (by omega) (by omega)).mp d22
              have e32 : ¬ a % 6 = b % 6 := mt (nI_subz (by omega) (by omega)).mpr c32
              exact ⟨by rw [hr7, nI_sn (by omega) (by omega) (Int32.not_le.mp d58), nI_sp (by omega) (by omega) (Int32.not_lt.mpr c69)]; unfold pSt; rw [if_neg (by simp [e22, e32])], hs7⟩
            · skip
              refine k_iload C 74 1  rfl dX10_stepCost_72 rfl ?_
              refine k_ineg C 75 dX10_stepCost_74 rfl ?_
              refine k_goto C 80 dX10_stepCost_75 (by decide) ?_
              refine k_aload_n C 81 3 rfl rfl dX10_stepCost_80 rfl ?_
              refine k_get C 84 flX10_9 91 (by decide) (v := .ref (ga g 92)) (ce_91 g _) rfl dX10_stepCost_81 rfl ?_
              refine k_iconst C 85 (v := 3) (by decide) dX10_stepCost_84 rfl ?_
              refine k_iald C 86 92 3 (by decide) (ce_92 g) (by decide) rfl (by omega) dX10_stepCost_85 rfl ?_
              refine k_callVI C 89 (As := [.int 0, .int (-((nI (a / 6)) - (nI (b / 6)))), .int (-((nI (a % 6)) - (nI (b % 6)))), .int (M 92 3)]) (st := []) 91 (by decide) (ce_91 g _) rfl rfl mwX10_80 vlX10_gives (qX10_gives l g M (u := 0) (n := n1) (by omega) p hL (-((nI (a / 6)) - (nI (b / 6)))) (-((nI (a % 6)) - (nI (b % 6)))) (M 92 3)) mlX10_gives (by decide) (by decide) rfl rfl (Nat.le_of_ble_eq_true rfl) dX10_stepCost_86 rfl (fun r8 M8 h8 => ?_)
              obtain ⟨hr8, hs8⟩ := h8
              refine k_goto C 93 dX10_stepCost_89 (by decide) ?_
              refine k_ret C rfl dX10_stepCost_93 ?_
              have e22 : a / 6 = b / 6 := (nI_subz (by omega) (by omega)).mp d22
              have e32 : ¬ a % 6 = b % 6 := mt (nI_subz (by omega) (by omega)).mpr c32
              exact ⟨by rw [hr8, nI_sn (by omega) (by omega) (Int32.not_le.mp d58), nI_sn (by omega) (by omega) (Int32.not_le.mp d69)]; unfold pSt; rw [if_neg (by simp [e22, e32])], hs8⟩
    · skip
      refine k_iconst C 36 (v := 1) (by decide) dX10_stepCost_35 rfl ?_
      refine k_goto C 40 dX10_stepCost_36 (by decide) ?_
      refine k_icmp_eq C 47 43 dX10_stepCost_40 (by decide) rfl (fun c40 => ?_) (fun d40 => ?_)
      · skip
        refine k_iconst C 48 (v := 0) (by decide) dX10_stepCost_47 rfl ?_
        refine k_istore C 50 [(5, .int 0), (4, .int ((nI (a % 6)) - (nI (b % 6)))), (3, .int ((nI (a / 6)) - (nI (b / 6)))), (0, .ref (ga g 91)), (1, .int (nI a)), (2, .int (nI b))]  (by decide) rfl dX10_stepCost_48 rfl ?_
        refine k_iload C 52 0  rfl dX10_stepCost_50 rfl ?_
        refine k_if_eq C 92 55 dX10_stepCost_52 (by decide) rfl (fun c52 => ?_) (fun d52 => ?_)
        · skip
          refine k_iconst C 93 (v := (-1)) (by decide) dX10_stepCost_92 rfl ?_
          refine k_ret C rfl dX10_stepCost_93 ?_
          have e22 : a / 6 = b / 6 := (nI_subz (by omega) (by omega)).mp d22
          have e32 : a % 6 = b % 6 := (nI_subz (by omega) (by omega)).mp d32
          exact ⟨by unfold pSt; rw [if_pos (by simp [e22, e32])], fun _ _ _ => rfl⟩
        · skip
          exact absurd d52 (by decide)
      · skip
        exact absurd d40 (by decide)
set_option maxHeartbeats 4000000 in
set_option maxRecDepth 20000 in
theorem qX10_findCosts (l : Launch) (g : GT) (M : Mem) {t : Nat} (ht : t < 72) {n1 : Nat} (p : Nat → Int32) (hL : mlawOk M 0 n1 p) (st : Nat → Nat → Nat) (hst : stOk n1 p (M 92 3) st) : CtrV l g yX10_findCosts cX10_findCosts 6 4 [.ref (ga g 91), .int (nI t)] M (fun M1 => ∃ c, fcI M M1 st t c ∧ fcE st c) := by
  refine ctrV_of (by decide +kernel) (Nat.le_of_ble_eq_true rfl) ?_
  intro pP eE RR sS mI aG bB mE cD C
  refine k_lo (lo' := [(0, .ref (ga g 91)), (1, .int (nI t))]) rfl ?_
  refine k_iconst C 1 (v := 0) (by decide) dX10_findCosts_0 rfl ?_
  refine k_istore_n C 2 [(2, .int 0), (0, .ref (ga g 91)), (1, .int (nI t))] rfl (by decide) rfl dX10_findCosts_1 rfl ?_
  refine k_sub [(0, .ref (ga g 91)), (1, .int (nI t)), (2, .int 0)] [1, 2, 0] rfl ?_
  refine k_all (M' := M) (lo' := [(0, .ref (ga g 91)), (1, .int (nI t)), (2, .int (nI 0))]) (st' := []) (by rfl) (by rfl) rfl ?_
  refine k_loop (σ := Nat × Mem) (fun (v : Nat × Mem) => match v with | (i, M1) => (i ≤ 72) ∧ (∀ a, a ≠ 103 → M1 a = M a) ∧ (∀ q, q < i → M1 103 q = nI (if q = t then 0 else 9999))) (fun (v : Nat × Mem) => match v with | (i, M1) => 72 - i) (fun (v : Nat × Mem) => match v with | (i, M1) => M1) (fun (v : Nat × Mem) => match v with | (i, M1) => [(0, .ref (ga g 91)), (1, .int (nI t)), (2, .int (nI i))]) (0, M) (show (0 ≤ 72) ∧ (∀ a, a ≠ 103 → M a = M a) ∧ (∀ q, q < 0 → M 103 q = nI (if q = t then 0 else 9999)) from by exact ⟨Nat.zero_le _, fun _ _ => rfl, fun q hq => absurd hq (Nat.not_lt_zero _)⟩) ?_
  rintro ⟨i, M1⟩ hI ih
  have hI : (i ≤ 72) ∧ (∀ a, a ≠ 103 → M1 a = M a) ∧ (∀ q, q < i → M1 103 q = nI (if q = t then 0 else 9999)) := hI
  obtain ⟨hi, hA, hB⟩ := hI
  show KW pP l eE RR sS mI aG bB mE cD g 6 _ (M1) 2 [(0, .ref (ga g 91)), (1, .int (nI t)), (2, .int (nI i))] []
  refine k_iload_n C 3 2 rfl rfl dX10_findCosts_2 rfl ?_
  refine k_bipush C 5 (v := 72) (by decide) dX10_findCosts_3 rfl ?_
  refine k_icmp_ge C 32 8 dX10_findCosts_5 (by decide) rfl (fun c5 => ?_) (fun d5 => ?_)
  · skip
    have c5 := (nI_leI (by omega) (by omega)).mp (show nI 72 ≤ nI i from c5)
    refine k_iconst C 33 (v := 1) (by decide) dX10_findCosts_32 rfl ?_
    refine k_istore_n C 34 [(2, .int 1), (0, .ref (ga g 91)), (1, .int (nI t))] rfl (by decide) rfl dX10_findCosts_33 rfl ?_
    refine k_sub [(0, .ref (ga g 91)), (1, .int (nI t)), (2, .int 1)] [1, 2, 0] rfl ?_
    refine k_all (M' := M1) (lo' := [(0, .ref (ga g 91)), (1, .int (nI t)), (2, .int (b2i true))]) (st' := []) (by rfl) (by rfl) rfl ?_
    refine k_loop (σ := Bool × (Nat → Nat) × Mem) (fun (v : Bool × (Nat → Nat) × Mem) => match v with | (w, cc, M2) => (fcI M M2 st t cc) ∧ (w = false → fcE st cc)) (fun (v : Bool × (Nat → Nat) × Mem) => match v with | (w, cc, M2) => 2 * sm cc 72 + (if w then 1 else 0)) (fun (v : Bool × (Nat → Nat) × Mem) => match v with | (w, cc, M2) => M2) (fun (v : Bool × (Nat → Nat) × Mem) => match v with | (w, cc, M2) => [(0, .ref (ga g 91)), (1, .int (nI t)), (2, .int (b2i w))]) (true, (fun z => if z = t then 0 else 9999), M1) (show (fcI M M1 st t (fun z => if z = t then 0 else 9999)) ∧ (true = false → fcE st (fun z => if z = t then 0 else 9999)) from by exact ⟨fcI_0 hA (fun q hq => hB q (by omega)), fun z => absurd z (by decide)⟩) ?_
    rintro ⟨w, cc, M2⟩ hI ihA
    have hI : (fcI M M2 st t cc) ∧ (w = false → fcE st cc) := hI
    obtain ⟨hI2, hE⟩ := hI
    show KW pP l eE RR sS mI aG bB mE cD g 6 _ (M2) 34 [(0, .ref (ga g 91)), (1, .int (nI t)), (2, .int (b2i w))] []
    refine k_iload_n C 35 2 rfl rfl dX10_findCosts_34 rfl ?_
    refine k_if_eqB C 144 38 dX10_findCosts_35 (by decide) rfl (fun c35 => ?_) (fun d35 => ?_)
    · skip
      refine k_vret C dX10_findCosts_144 ?_
      exact ⟨cc, hI2, hE c35⟩
    · skip
      refine k_iconst C 39 (v := 0) (by decide) dX10_findCosts_38 rfl ?_
      refine k_istore_n C 40 [(2, .int 0), (0, .ref (ga g 91)), (1, .int (nI t))] rfl (by decide) rfl dX10_findCosts_39 rfl ?_
      refine k_iconst C 41 (v := 0) (by decide) dX10_findCosts_40 rfl ?_
      refine k_istore_n C 42 [(3, .int 0), (2, .int 0), (0, .ref (ga g 91)), (1, .int (nI t))] rfl (by decide) rfl dX10_findCosts_41 rfl ?_
      refine k_sub [(0, .ref (ga g 91)), (1, .int (nI t)), (2, .int 0), (3, .int 0)] [2, 3, 1, 0] rfl ?_
      refine k_all (M' := M2) (lo' := [(0, .ref (ga g 91)), (1, .int (nI t)), (2, .int (b2i false)), (3, .int (nI 0))]) (st' := []) (by rfl) (by rfl) rfl ?_
      refine k_loop (σ := Nat × Bool × (Nat → Nat) × Mem) (fun (v : Nat × Bool × (Nat → Nat) × Mem) => match v with | (a, w1, c1, M3) => (a ≤ 72) ∧ (fcI M M3 st t c1) ∧ (fcS st cc c1 w1 a 0)) (fun (v : Nat × Bool × (Nat → Nat) × Mem) => match v with | (a, w1, c1, M3) => 72 - a) (fun (v : Nat × Bool × (Nat → Nat) × Mem) => match v with | (a, w1, c1, M3) => M3) (fun (v : Nat × Bool × (Nat → Nat) × Mem) => match v with | (a, w1, c1, M3) => [(0, .ref (ga g 91)), (1, .int (nI t)), (2, .int (b2i w1)), (3, .int (nI a))]) (0, false, cc, M2) (show (0 ≤ 72) ∧ (fcI M M2 st t cc) ∧ (fcS st cc cc false 0 0) from by exact ⟨Nat.zero_le _, hI2, fcS_0 st cc⟩) ?_
      rintro ⟨a, w1, c1, M3⟩ hI ihB
      have hI : (a ≤ 72) ∧ (fcI M M3 st t c1) ∧ (fcS st cc c1 w1 a 0) := hI
      obtain ⟨ha, hI3, hS3⟩ := hI
      show KW pP l eE RR sS mI aG bB mE cD g 6 _ (M3) 42 [(0, .ref (ga g 91)), (1, .int (nI t)), (2, .int (b2i w1)), (3, .int (nI a))] []
      refine k_iload_n C 43 3 rfl rfl dX10_findCosts_42 rfl ?_
      refine k_bipush C 45 (v := 72) (by decide) dX10_findCosts_43 rfl ?_
      refine k_icmp_ge C 141 48 dX10_findCosts_45 (by decide) rfl (fun c45 => ?_) (fun d45 => ?_)
      · skip
        have c45 := (nI_leI (by omega) (by omega)).mp (show nI 72 ≤ nI a from c45)
        refine k_goto C 34 dX10_findCosts_141 (by decide) ?_
        refine k_sub [(0, .ref (ga g 91)), (1, .int (nI t)), (2, .int (b2i w1))] [0, 1, 2] rfl ?_
        refine k_all (M' := M3) (lo' := [(0, .ref (ga g 91)), (1, .int (nI t)), (2, .int (b2i w1))]) (st' := []) (by rfl) (by rfl) rfl ?_
        exact ihA (w1, c1, M3) (show (fcI M M3 st t c1) ∧ (w1 = false → fcE st c1) from by exact ⟨hI3, fcE_of ((show a = 72 by omega) ▸ hS3)⟩) (by show 2 * sm c1 72 + (if w1 then 1 else 0) < 2 * sm cc 72 + (if w then 1 else 0); rw [d35]; exact fc_mu ((show a = 72 by omega) ▸ hS3))
      · skip
        have d45 := mt (nI_leI (by omega) (by omega)).mpr (show ¬ (nI 72 ≤ nI a) from d45)
        refine k_iconst C 49 (v := 0) (by decide) dX10_findCosts_48 rfl ?_
        refine k_istore C 51 [(4, .int 0), (0, .ref (ga g 91)), (1, .int (nI t)), (2, .int (b2i w1)), (3, .int (nI a))]  (by decide) rfl dX10_findCosts_49 rfl ?_
        refine k_sub [(0, .ref (ga g 91)), (1, .int (nI t)), (2, .int (b2i w1)), (3, .int (nI a)), (4, .int 0)] [1, 2, 3, 4, 0] rfl ?_
        refine k_all (M' := M3) (lo' := [(0, .ref (ga g 91)), (1, .int (nI t)), (2, .int (b2i w1)), (3, .int (nI a)), (4, .int (nI 0))]) (st' := []) (by rfl) (by rfl) rfl ?_
        refine k_loop (σ := Nat × Bool × (Nat → Nat) × Mem) (fun (v : Nat × Bool × (Nat → Nat) × Mem) => match v with | (b, w5, c5, M5) => (b ≤ 72) ∧ (fcI M M5 st t c5) ∧ (fcS st cc c5 w5 a b)) (fun (v : Nat × Bool × (Nat → Nat) × Mem) => match v with | (b, w5, c5, M5) => 72 - b) (fun (v : Nat × Bool × (Nat → Nat) × Mem) => match v with | (b, w5, c5, M5) => M5) (fun (v : Nat × Bool × (Nat → Nat) × Mem) => match v with | (b, w5, c5, M5) => [(0, .ref (ga g 91)), (1, .int (nI t)), (2, .int (b2i w5)), (3, .int (nI a)), (4, .int (nI b))]) (0, w1, c1, M3) (show (0 ≤ 72) ∧ (fcI M M3 st t c1) ∧ (fcS st cc c1 w1 a 0) from by exact ⟨Nat.zero_le _, hI3, hS3⟩) ?_
        rintro ⟨b, w5, c5, M5⟩ hI ihC
        have hI : (b ≤ 72) ∧ (fcI M M5 st t c5) ∧ (fcS st cc c5 w5 a b) := hI
        obtain ⟨hb, hI5, hS5⟩ := hI
        show KW pP l eE RR sS mI aG bB mE cD g 6 _ (M5) 51 [(0, .ref (ga g 91)), (1, .int (nI t)), (2, .int (b2i w5)), (3, .int (nI a)), (4, .int (nI b))] []
        refine k_iload C 53 4  rfl dX10_findCosts_51 rfl ?_
        refine k_bipush C 55 (v := 72) (by decide) dX10_findCosts_53 rfl ?_
        refine k_icmp_ge C 135 58 dX10_findCosts_55 (by decide) rfl (fun c55 => ?_) (fun d55 => ?_)
        · skip
          have c55 := (nI_leI (by omega) (by omega)).mp (show nI 72 ≤ nI b from c55)
          refine k_iinc C 138 (nI (a + 1)) 3 [(3, .int (nI (a + 1))), (0, .ref (ga g 91)), (1, .int (nI t)), (2, .int (b2i w5)), (4, .int (nI b))] rfl (iinc_p a) (by decide) rfl dX10_findCosts_135 rfl ?_
          refine k_goto C 42 dX10_findCosts_138 (by decide) ?_
          refine k_sub [(0, .ref (ga g 91)), (1, .int (nI t)), (2, .int (b2i w5)), (3, .int (nI (a + 1)))] [1, 2, 3, 0] rfl ?_
          refine k_all (M' := M5) (lo' := [(0, .ref (ga g 91)), (1, .int (nI t)), (2, .int (b2i w5)), (3, .int (nI (a + 1)))]) (st' := []) (by rfl) (by rfl) rfl ?_
          exact ihB (a + 1, w5, c5, M5) (show ((a + 1) ≤ 72) ∧ (fcI M M5 st t c5) ∧ (fcS st cc c5 w5 (a + 1) 0) from by exact ⟨by omega, hI5, fcS_row ((show b = 72 by omega) ▸ hS5)⟩) (by show 72 - (a + 1) < 72 - a; omega)
        · skip
          have d55 := mt (nI_leI (by omega) (by omega)).mpr (show ¬ (nI 72 ≤ nI b) from d55)
          have hkb := hI5.2.2.1 b (by omega)
          have hka := hI5.2.2.1 a (by omega)
          refine k_aload_n C 59 0 rfl rfl dX10_findCosts_58 rfl ?_
          refine k_get C 62 flX10_43 91 (by decide) (v := .ref (ga g 103)) (ce_91 g _) rfl dX10_findCosts_59 rfl ?_
          refine k_iload C 64 4  rfl dX10_findCosts_62 rfl ?_
          refine k_iald C 65 103 b (by decide) (ce_103 g) (by decide) rfl (by omega) dX10_findCosts_64 rfl ?_
          refine k_teq (y := nI (c5 b)) (hI5.2.1 b (by omega)) ?_
          refine k_aload_n C 66 0 rfl rfl dX10_findCosts_65 rfl ?_
          refine k_get C 69 flX10_43 91 (by decide) (v := .ref (ga g 103)) (ce_91 g _) rfl dX10_findCosts_66 rfl ?_
          refine k_iload_n C 70 3 rfl rfl dX10_findCosts_69 rfl ?_
          refine k_iald C 71 103 a (by decide) (ce_103 g) (by decide) rfl (by omega) dX10_findCosts_70 rfl ?_
          refine k_teq (y := nI (c5 a)) (hI5.2.1 a (by omega)) ?_
          refine k_icmp_ge C 84 74 dX10_findCosts_71 (by decide) rfl (fun c71 => ?_) (fun d71 => ?_)
          · skip
            have c71 := (nI_leI (by omega) (by omega)).mp (show nI (c5 a) ≤ nI (c5 b) from c71)
            refine k_iconst C 85 (v := (-1)) (by decide) dX10_findCosts_84 rfl ?_
            refine k_istore C 87 [(5, .int (-1)), (0, .ref (ga g 91)), (1, .int (nI t)), (2, .int (b2i w5)), (3, .int (nI a)), (4, .int (nI b))]  (by decide) rfl dX10_findCosts_85 rfl ?_
            refine k_iload C 89 0  rfl dX10_findCosts_87 rfl ?_
            refine k_if_le C 129 92 dX10_findCosts_89 (by decide) rfl (fun c89 => ?_) (fun d89 => ?_)
            · skip
              refine k_iinc C 132 (nI (b + 1)) 5 [(4, .int (nI (b + 1))), (5, .int (-1)), (0, .ref (ga g 91)), (1, .int (nI t)), (2, .int (b2i w5)), (3, .int (nI a))] rfl (iinc_p b) (by decide) rfl dX10_findCosts_129 rfl ?_
              refine k_goto C 51 dX10_findCosts_132 (by decide) ?_
              refine k_sub [(0, .ref (ga g 91)), (1, .int (nI t)), (2, .int (b2i w5)), (3, .int (nI a)), (4, .int (nI (b + 1)))] [2, 3, 4, 5, 0] rfl ?_
              refine k_all (M' := M5) (lo' := [(0, .ref (ga g 91)), (1, .int (nI t)), (2, .int (b2i w5)), (3, .int (nI a)), (4, .int (nI (b + 1)))]) (st' := []) (by rfl) (by rfl) rfl ?_
              exact ihC (b + 1, w5, c5, M5) (show ((b + 1) ≤ 72) ∧ (fcI M M5 st t c5) ∧ (fcS st cc c5 w5 a (b + 1)) from by exact ⟨by omega, hI5, fcS_same hS5 (fun _ => by omega)⟩) (by show 72 - (b + 1) < 72 - b; omega)
            · skip
              exact absurd d89 (by decide)
          · skip
            have d71 := mt (nI_leI (by omega) (by omega)).mpr (show ¬ (nI (c5 a) ≤ nI (c5 b)) from d71)
            refine k_aload_n C 75 0 rfl rfl dX10_findCosts_74 rfl ?_
            refine k_iload_n C 76 3 rfl rfl dX10_findCosts_75 rfl ?_
            refine k_iload C 78 4  rfl dX10_findCosts_76 rfl ?_
            refine k_callVI C 81 (As := [.int (nI a), .int (nI b)]) (st := []) 91 (by decide) (ce_91 g _) rfl rfl mwX10_212 vlX10_stepCost (qX10_stepCost l g M5 (a := a) (b := b) (by omega) (by omega) p (mlawOk_of hL (hI5.1 92 (by decide) (by decide) (by decide)))) mlX10_stepCost (by decide) (by decide) rfl rfl (Nat.le_of_ble_eq_true rfl) dX10_findCosts_78 rfl (fun r4 M4 h4 => ?_)
            obtain ⟨hr4, hs4⟩ := h4
            rw [show M5 92 = M 92 from (hI5.1 92 (by decide) (by decide) (by decide))] at hr4
            refine k_goto C 85 dX10_findCosts_81 (by decide) ?_
            refine k_istore C 87 [(5, .int r4), (0, .ref (ga g 91)), (1, .int (nI t)), (2, .int (b2i w5)), (3, .int (nI a)), (4, .int (nI b))]  (by decide) rfl dX10_findCosts_85 rfl ?_
            refine k_iload C 89 0  rfl dX10_findCosts_87 rfl ?_
            refine k_if_le C 129 92 dX10_findCosts_89 (by decide) rfl (fun c89 => ?_) (fun d89 => ?_)
            · skip
              refine k_iinc C 132 (nI (b + 1)) 5 [(4, .int (nI (b + 1))), (5, .int r4), (0, .ref (ga g 91)), (1, .int (nI t)), (2, .int (b2i w5)), (3, .int (nI a))] rfl (iinc_p b) (by decide) rfl dX10_findCosts_129 rfl ?_
              refine k_goto C 51 dX10_findCosts_132 (by decide) ?_
              refine k_sub [(0, .ref (ga g 91)), (1, .int (nI t)), (2, .int (b2i w5)), (3, .int (nI a)), (4, .int (nI (b + 1)))] [2, 3, 4, 5, 0] rfl ?_
              refine k_all (M' := M4) (lo' := [(0, .ref (ga g 91)), (1, .int (nI t)), (2, .int (b2i w5)), (3, .int (nI a)), (4, .int (nI (b + 1)))]) (st' := []) (by rfl) (by rfl) rfl ?_
              exact ihC (b + 1, w5, c5, M4) (show ((b + 1) ≤ 72) ∧ (fcI M M4 st t c5) ∧ (fcS st cc c5 w5 a (b + 1)) from by exact ⟨by omega, fcI_mv hI5 hs4, fcS_same hS5 (fun z => absurd (stOk_lt hst (by omega) (by omega) (by rw [← hr4]; exact c89)) z)⟩) (by show 72 - (b + 1) < 72 - b; omega)
            · skip
              obtain ⟨hst0, hst1⟩ := stOk_gt hst (a := a) (b := b) (by omega) (by omega) (by rw [← hr4]; exact d89)
              have hst9 := (hst (a) (b) (by omega) (by omega)).2
              refine k_lo (lo' := [(5, .int (nI (st a b))), (0, .ref (ga g 91)), (1, .int (nI t)), (2, .int (b2i w5)), (3, .int (nI a)), (4, .int (nI b))]) (by rw [hr4, hst1]) ?_
              refine k_aload_n C 93 1 rfl rfl dX10_findCosts_92 rfl ?_
              refine k_get C 96 flX10_43 91 (by decide) (v := .ref (ga g 103)) (ce_91 g _) rfl dX10_findCosts_93 rfl ?_
              refine k_iload C 98 5  rfl dX10_findCosts_96 rfl ?_
              refine k_iald C 99 103 b (by decide) (ce_103 g) (by decide) rfl (by omega) dX10_findCosts_98 rfl ?_
              refine k_teq (y := nI (c5 b)) (by rw [hs4 103 (by decide) (by decide)]; exact hI5.2.1 b (by omega)) ?_
              refine k_iload C 101 0  rfl dX10_findCosts_99 rfl ?_
              refine k_iadd C 102 dX10_findCosts_101 rfl ?_
              refine k_teq (nI_add (c5 b) (st a b)) ?_
              refine k_aload_n C 103 1 rfl rfl dX10_findCosts_102 rfl ?_
              refine k_get C 106 flX10_43 91 (by decide) (v := .ref (ga g 103)) (ce_91 g _) rfl dX10_findCosts_103 rfl ?_
              refine k_iload_n C 107 4 rfl rfl dX10_findCosts_106 rfl ?_
              refine k_iald C 108 103 a (by decide) (ce_103 g) (by decide) rfl (by omega) dX10_findCosts_107 rfl ?_
              refine k_teq (y := nI (c5 a)) (by rw [hs4 103 (by decide) (by decide)]; exact hI5.2.1 a (by omega)) ?_
              refine k_icmp_ge C 129 111 dX10_findCosts_108 (by decide) rfl (fun c108 => ?_) (fun d108 => ?_)
              · skip
                have c108 := (nI_leI (by omega) (by omega)).mp (show nI (c5 a) ≤ nI ((c5 b) + (st a b)) from c108)
                refine k_iinc C 132 (nI (b + 1)) 5 [(4, .int (nI (b + 1))), (5, .int (nI (st a b))), (0, .ref (ga g 91)), (1, .int (nI t)), (2, .int (b2i w5)), (3, .int (nI a))] rfl (iinc_p b) (by decide) rfl dX10_findCosts_129 rfl ?_
                refine k_goto C 51 dX10_findCosts_132 (by decide) ?_
                refine k_sub [(0, .ref (ga g 91)), (1, .int (nI t)), (2, .int (b2i w5)), (3, .int (nI a)), (4, .int (nI (b + 1)))] [2, 3, 4, 5, 0] rfl ?_
                refine k_all (M' := M4) (lo' := [(0, .ref (ga g 91)), (1, .int (nI t)), (2, .int (b2i w5)), (3, .int (nI a)), (4, .int (nI (b + 1)))]) (st' := []) (by rfl) (by rfl) rfl ?_
                exact ihC (b + 1, w5, c5, M4) (show ((b + 1) ≤ 72) ∧ (fcI M M4 st t c5) ∧ (fcS st cc c5 w5 a (b + 1)) from by exact ⟨by omega, fcI_mv hI5 hs4, fcS_same hS5 (fun _ => c108)⟩) (by show 72 - (b + 1) < 72 - b; omega)
              · skip
                have d108 := mt (nI_leI (by omega) (by omega)).mpr (show ¬ (nI (c5 a) ≤ nI ((c5 b) + (st a b))) from d108)
                refine k_aload_n C 112 1 rfl rfl dX10_findCosts_111 rfl ?_
                refine k_get C 115 flX10_43 91 (by decide) (v := .ref (ga g 103)) (ce_91 g _) rfl dX10_findCosts_112 rfl ?_
                refine k_iload_n C 116 4 rfl rfl dX10_findCosts_115 rfl ?_
                refine k_aload_n C 117 1 rfl rfl dX10_findCosts_116 rfl ?_
                refine k_get C 120 flX10_43 91 (by decide) (v := .ref (ga g 103)) (ce_91 g _) rfl dX10_findCosts_117 rfl ?_
                refine k_iload C 122 5  rfl dX10_findCosts_120 rfl ?_
                refine k_iald C 123 103 b (by decide) (ce_103 g) (by decide) rfl (by omega) dX10_findCosts_122 rfl ?_
                refine k_teq (y := nI (c5 b)) (by rw [hs4 103 (by decide) (by decide)]; exact hI5.2.1 b (by omega)) ?_
                refine k_iload C 125 0  rfl dX10_findCosts_123 rfl ?_
                refine k_iadd C 126 dX10_findCosts_125 rfl ?_
                refine k_teq (nI_add (c5 b) (st a b)) ?_
                refine k_iast C 127 103 a (by decide) (ce_103 g) (by decide) rfl (by omega) dX10_findCosts_126 rfl ?_
                refine k_iconst C 128 (v := 1) (by decide) dX10_findCosts_127 rfl ?_
                refine k_istore_n C 129 [(2, .int 1), (5, .int (nI (st a b))), (0, .ref (ga g 91)), (1, .int (nI t)), (3, .int (nI a)), (4, .int (nI b))] rfl (by decide) rfl dX10_findCosts_128 rfl ?_
                refine k_iinc C 132 (nI (b + 1)) 5 [(4, .int (nI (b + 1))), (2, .int 1), (5, .int (nI (st a b))), (0, .ref (ga g 91)), (1, .int (nI t)), (3, .int (nI a))] rfl (iinc_p b) (by decide) rfl dX10_findCosts_129 rfl ?_
                refine k_goto C 51 dX10_findCosts_132 (by decide) ?_
                refine k_sub [(0, .ref (ga g 91)), (1, .int (nI t)), (2, .int 1), (3, .int (nI a)), (4, .int (nI (b + 1)))] [3, 4, 1, 5, 0] rfl ?_
                refine k_all (M' := (mu M4 103 a (nI ((c5 b) + (st a b))))) (lo' := [(0, .ref (ga g 91)), (1, .int (nI t)), (2, .int (b2i true)), (3, .int (nI a)), (4, .int (nI (b + 1)))]) (st' := []) (by rfl) (by rfl) rfl ?_
                exact ihC (b + 1, true, (fun z => if z = a then c5 b + st a b else c5 z), mu M4 103 a (nI ((c5 b) + (st a b)))) (show ((b + 1) ≤ 72) ∧ (fcI M (mu M4 103 a (nI ((c5 b) + (st a b)))) st t (fun z => if z = a then c5 b + st a b else c5 z)) ∧ (fcS st cc (fun z => if z = a then c5 b + st a b else c5 z) true a (b + 1)) from by exact ⟨by omega, fcI_upd hI5 (by omega) (by omega) hst0 (by omega) hs4, fcS_upd hS5 (by omega) (by omega)⟩) (by show 72 - (b + 1) < 72 - b; omega)
  · skip
    have d5 := mt (nI_leI (by omega) (by omega)).mpr (show ¬ (nI 72 ≤ nI i) from d5)
    refine k_aload_n C 9 0 rfl rfl dX10_findCosts_8 rfl ?_
    refine k_get C 12 flX10_43 91 (by decide) (v := .ref (ga g 103)) (ce_91 g _) rfl dX10_findCosts_9 rfl ?_
    refine k_iload_n C 13 2 rfl rfl dX10_findCosts_12 rfl ?_
    refine k_iload_n C 14 2 rfl rfl dX10_findCosts_13 rfl ?_
    refine k_iload_n C 15 1 rfl rfl dX10_findCosts_14 rfl ?_
    refine k_icmp_ne C 22 18 dX10_findCosts_15 (by decide) rfl (fun c15 => ?_) (fun d15 => ?_)
    · skip
      have c15 := mt (nI_eq (by omega) (by omega)).mpr (show ¬ (nI i = nI t) from c15)
      refine k_sipush C 25 (v := 9999) (by decide) dX10_findCosts_22 rfl ?_
      refine k_iast C 26 103 i (by decide) (ce_103 g) (by decide) rfl (by omega) dX10_findCosts_25 rfl ?_
      refine k_iinc C 29 (nI (i + 1)) 2 [(2, .int (nI (i + 1))), (0, .ref (ga g 91)), (1, .int (nI t))] rfl (iinc_p i) (by decide) rfl dX10_findCosts_26 rfl ?_
      refine k_goto C 2 dX10_findCosts_29 (by decide) ?_
      refine k_sub [(0, .ref (ga g 91)), (1, .int (nI t)), (2, .int (nI (i + 1)))] [1, 2, 0] rfl ?_
      refine k_all (M' := (mu M1 103 i 9999)) (lo' := [(0, .ref (ga g 91)), (1, .int (nI t)), (2, .int (nI (i + 1)))]) (st' := []) (by rfl) (by rfl) rfl ?_
      exact ih (i + 1, mu M1 103 i 9999) (show ((i + 1) ≤ 72) ∧ (∀ a, a ≠ 103 → (mu M1 103 i 9999) a = M a) ∧ (∀ q, q < (i + 1) → (mu M1 103 i 9999) 103 q = nI (if q = t then 0 else 9999)) from by exact ⟨by omega, fun a ha => by rw [mu_n _ _ _ ha]; exact hA a ha, fun q hq => by
        by_cases e : q = i
        · subst e; rw [mu_s, if_neg c15]; rfl
        · rw [mu_o _ _ _ e]; exact hB q (by omega)⟩) (by show 72 - (i + 1) < 72 - i; omega)
    · skip
      have d15 := (nI_eq (by omega) (by omega)).mp (show nI i = nI t from d15)
      refine k_iconst C 19 (v := 0) (by decide) dX10_findCosts_18 rfl ?_
      refine k_goto C 25 dX10_findCosts_19 (by decide) ?_
      refine k_iast C 26 103 i (by decide) (ce_103 g) (by decide) rfl (by omega) dX10_findCosts_25 rfl ?_
      refine k_iinc C 29 (nI (i + 1)) 2 [(2, .int (nI (i + 1))), (0, .ref (ga g 91)), (1, .int (nI t))] rfl (iinc_p i) (by decide) rfl dX10_findCosts_26 rfl ?_
      refine k_goto C 2 dX10_findCosts_29 (by decide) ?_
      refine k_sub [(0, .ref (ga g 91)), (1, .int (nI t)), (2, .int (nI (i + 1)))] [1, 2, 0] rfl ?_
      refine k_all (M' := (mu M1 103 i 0)) (lo' := [(0, .ref (ga g 91)), (1, .int (nI t)), (2, .int (nI (i + 1)))]) (st' := []) (by rfl) (by rfl) rfl ?_
      exact ih (i + 1, mu M1 103 i 0) (show ((i + 1) ≤ 72) ∧ (∀ a, a ≠ 103 → (mu M1 103 i 0) a = M a) ∧ (∀ q, q < (i + 1) → (mu M1 103 i 0) 103 q = nI (if q = t then 0 else 9999)) from by exact ⟨by omega, fun a ha => by rw [mu_n _ _ _ ha]; exact hA a ha, fun q hq => by
        by_cases e : q = i
        · subst e; rw [mu_s, if_pos d15]; rfl
        · rw [mu_o _ _ _ e]; exact hB q (by omega)⟩) (by show 72 - (i + 1) < 72 - i; omega)
set_option maxHeartbeats 4000000 in
set_option maxRecDepth 20000 in
theorem qX10_reply_f (l : Launch) (g : GT) (M : Mem) (x w : Int32) (hf : (pLine x && (decide (0 ≤ w) && decide (w ≤ 1))) = false) : CtrE l g yX10_reply cX10_reply 7 (some .int) 5 [.ref (ga g 91), .int x, .int w] M (-1000000001) (mu M 95 1 (M 95 1 + 1)) := by
  refine ctrI_of (by decide +kernel) (Nat.le_of_ble_eq_true rfl) ?_
  intro pP eE RR sS mI aG bB mE cD C
  refine k_lo (lo' := [(0, .ref (ga g 91)), (1, .int x), (2, .int w)]) rfl ?_
  refine k_iload_n C 1 1 rfl rfl dX10_reply_0 rfl ?_
  refine k_callSE C 4 (As := [.int x]) (st := []) mwX10_91 skX10_isLine (qX10_isLine l g M x) mlX10_isLine (by decide) (by decide) rfl rfl (Nat.le_of_ble_eq_true rfl) dX10_reply_1 rfl ?_
  refine k_if_eqB C 16 7 dX10_reply_4 (by decide) rfl (fun c4 => ?_) (fun d4 => ?_)
  · skip
    refine k_aload_n C 17 0 rfl rfl dX10_reply_16 rfl ?_
    refine k_ldc C 19 cwX10_94 dX10_reply_17 rfl ?_
    refine k_callVE C 22 (As := [.int (-1000000001)]) (st := []) 91 (by decide) (ce_91 g _) rfl rfl mwX10_95 vlX10_error (qX10_error l g M (-1000000001) (k := 1) (by decide) (by decide)) mlX10_error (by decide) (by decide) rfl rfl (Nat.le_of_ble_eq_true rfl) dX10_reply_19 rfl ?_
    refine k_ret C rfl dX10_reply_22 ?_
    exact ⟨rfl, rfl⟩
  · skip
    refine k_iload_n C 8 2 rfl rfl dX10_reply_7 rfl ?_
    refine k_iconst C 9 (v := 0) (by decide) dX10_reply_8 rfl ?_
    refine k_iconst C 10 (v := 1) (by decide) dX10_reply_9 rfl ?_
    refine k_callSE C 13 (As := [.int w, .int 0, .int 1]) (st := []) mwX10_54 skX10_in (qX10_in l g M w 0 1) mlX10_in (by decide) (by decide) rfl rfl (Nat.le_of_ble_eq_true rfl) dX10_reply_10 rfl ?_
    refine k_if_neB C 23 16 dX10_reply_13 (by decide) rfl (fun c13 => ?_) (fun d13 => ?_)
    · skip
      exact (bz hf (by simp [d4, c13])).elim
    · skip
      refine k_aload_n C 17 0 rfl rfl dX10_reply_16 rfl ?_
      refine k_ldc C 19 cwX10_94 dX10_reply_17 rfl ?_
      refine k_callVE C 22 (As := [.int (-1000000001)]) (st := []) 91 (by decide) (ce_91 g _) rfl rfl mwX10_95 vlX10_error (qX10_error l g M (-1000000001) (k := 1) (by decide) (by decide)) mlX10_error (by decide) (by decide) rfl rfl (Nat.le_of_ble_eq_true rfl) dX10_reply_19 rfl ?_
      refine k_ret C rfl dX10_reply_22 ?_
      exact ⟨rfl, rfl⟩
set_option maxHeartbeats 4000000 in
set_option maxRecDepth 20000 in
theorem qX10_reply_0 (l : Launch) (g : GT) (M : Mem) {n : Nat} (hn : M 92 2 = nI n) (h12 : n ≤ 12) {TL TC : Nat} (hTL : TL < 12) (hTC : TC < 6) (hx : pLine (nI (10 * (TL + 1) + TC)) = true) {w : Nat} (hw : w < 2) (h : pAhead (mF M) n = none) : CtrE l g yX10_reply cX10_reply 7 (some .int) 5 [.ref (ga g 91), .int (nI (10 * (TL + 1) + TC)), .int (nI w)] M (-1000000003) (mu M 95 3 (M 95 3 + 1)) := by
  refine ctrI_of (by decide +kernel) (Nat.le_of_ble_eq_true rfl) ?_
  intro pP eE RR sS mI aG bB mE cD C
  refine k_lo (lo' := [(0, .ref (ga g 91)), (1, .int (nI (10 * (TL + 1) + TC))), (2, .int (nI w))]) rfl ?_
  refine k_iload_n C 1 1 rfl rfl dX10_reply_0 rfl ?_
  refine k_callSE C 4 (As := [.int (nI (10 * (TL + 1) + TC))]) (st := []) mwX10_91 skX10_isLine (qX10_isLine l g M (nI (10 * (TL + 1) + TC))) mlX10_isLine (by decide) (by decide) rfl rfl (Nat.le_of_ble_eq_true rfl) dX10_reply_1 rfl ?_
  refine k_if_eqB C 16 7 dX10_reply_4 (by decide) rfl (fun c4 => ?_) (fun d4 => ?_)
  · skip
    exact (bz c4 hx).elim
  · skip
    refine k_iload_n C 8 2 rfl rfl dX10_reply_7 rfl ?_
    refine k_iconst C 9 (v := 0) (by decide) dX10_reply_8 rfl ?_
    refine k_iconst C 10 (v := 1) (by decide) dX10_reply_9 rfl ?_
    refine k_callSE C 13 (As := [.int (nI w), .int 0, .int 1]) (st := []) mwX10_54 skX10_in (qX10_in l g M (nI w) 0 1) mlX10_in (by decide) (by decide) rfl rfl (Nat.le_of_ble_eq_true rfl) dX10_reply_10 rfl ?_
    refine k_if_neB C 23 16 dX10_reply_13 (by decide) rfl (fun c13 => ?_) (fun d13 => ?_)
    · skip
      refine k_aload_n C 24 0 rfl rfl dX10_reply_23 rfl ?_
      refine k_callVE C 27 (As := []) (st := []) 91 (by decide) (ce_91 g _) rfl rfl mwX10_215 vlX10_lastSeen (qX10_lastSeen l g M (n := n) hn h12) mlX10_lastSeen (by decide) (by decide) rfl rfl (Nat.le_of_ble_eq_true rfl) dX10_reply_24 rfl ?_
      refine k_teq (y := (-1)) (by rw [h]; rfl) ?_
      refine k_istore_n C 28 [(3, .int (-1)), (0, .ref (ga g 91)), (1, .int (nI (10 * (TL + 1) + TC))), (2, .int (nI w))] rfl (by decide) rfl dX10_reply_27 rfl ?_
      refine k_iload_n C 29 0 rfl rfl dX10_reply_28 rfl ?_
      refine k_if_ge C 39 32 dX10_reply_29 (by decide) rfl (fun c29 => ?_) (fun d29 => ?_)
      · skip
        exact absurd c29 (by decide)
      · skip
        refine k_aload_n C 33 1 rfl rfl dX10_reply_32 rfl ?_
        refine k_ldc C 35 cwX10_180 dX10_reply_33 rfl ?_
        refine k_callVE C 38 (As := [.int (-1000000003)]) (st := []) 91 (by decide) (ce_91 g _) rfl rfl mwX10_95 vlX10_error (qX10_error l g M (-1000000003) (k := 3) (by decide) (by decide)) mlX10_error (by decide) (by decide) rfl rfl (Nat.le_of_ble_eq_true rfl) dX10_reply_35 rfl ?_
        refine k_ret C rfl dX10_reply_38 ?_
        exact ⟨rfl, rfl⟩
    · skip
      exact (bz d13 (rg_le (a := 0) (b := 1) (Nat.zero_le _) (by omega) (by decide))).elim
set_option maxHeartbeats 4000000 in
set_option maxRecDepth 20000 in
theorem qX10_reply_t (l : Launch) (g : GT) (M : Mem) {n : Nat} (hn : M 92 2 = nI n) (h12 : n ≤ 12) {TL TC : Nat} (hTL : TL < 12) (hTC : TC < 6) (hx : pLine (nI (10 * (TL + 1) + TC)) = true) {w : Nat} (hw : w < 2) {a : Nat} (ha : pAhead (mF M) n = some a) {L CR : Nat} (hL2 : mF M a 2 = nI (L + 1)) (hL3 : mF M a 3 = nI CR) (hLb : L < 12) (hCb : CR < 6) {n1 : Nat} (p : Nat → Int32) (hL : mlawOk M 0 n1 p) (st : Nat → Nat → Nat) (hst : stOk n1 p (M 92 3) st) : CtrI l g yX10_reply cX10_reply 7 (some .int) 5 [.ref (ga g 91), .int (nI (10 * (TL + 1) + TC)), .int (nI w)] M (fun r M1 => ∃ cc, fcI M M1 st (6 * TL + TC) cc ∧ fcE st cc ∧ r = (if w = 0 then nI (cc (6 * L + CR)) else pRp st cc (6 * L + CR))) := by
  refine ctrI_of (by decide +kernel) (Nat.le_of_ble_eq_true rfl) ?_
  intro pP eE RR sS mI aG bB mE cD C
  refine k_lo (lo' := [(0, .ref (ga g 91)), (1, .int (nI (10 * (TL + 1) + TC))), (2, .int (nI w))]) rfl ?_
  have han := (pAhead_in _ _ _ ha).1
  refine k_iload_n C 1 1 rfl rfl dX10_reply_0 rfl ?_
  refine k_callSE C 4 (As := [.int (nI (10 * (TL + 1) + TC))]) (st := []) mwX10_91 skX10_isLine (qX10_isLine l g M (nI (10 * (TL + 1) + TC))) mlX10_isLine (by decide) (by decide) rfl rfl (Nat.le_of_ble_eq_true rfl) dX10_reply_1 rfl ?_
  refine k_if_eqB C 16 7 dX10_reply_4 (by decide) rfl (fun c4 => ?_) (fun d4 => ?_)
  · skip
    exact (bz c4 hx).elim
  · skip
    refine k_iload_n C 8 2 rfl rfl dX10_reply_7 rfl ?_
    refine k_iconst C 9 (v := 0) (by decide) dX10_reply_8 rfl ?_
    refine k_iconst C 10 (v := 1) (by decide) dX10_reply_9 rfl ?_
    refine k_callSE C 13 (As := [.int (nI w), .int 0, .int 1]) (st := []) mwX10_54 skX10_in (qX10_in l g M (nI w) 0 1) mlX10_in (by decide) (by decide) rfl rfl (Nat.le_of_ble_eq_true rfl) dX10_reply_10 rfl ?_
    refine k_if_neB C 23 16 dX10_reply_13 (by decide) rfl (fun c13 => ?_) (fun d13 => ?_)
    · skip
      refine k_aload_n C 24 0 rfl rfl dX10_reply_23 rfl ?_
      refine k_callVE C 27 (As := []) (st := []) 91 (by decide) (ce_91 g _) rfl rfl mwX10_215 vlX10_lastSeen (qX10_lastSeen l g M (n := n) hn h12) mlX10_lastSeen (by decide) (by decide) rfl rfl (Nat.le_of_ble_eq_true rfl) dX10_reply_24 rfl ?_
      refine k_teq (y := nI a) (by rw [ha]; rfl) ?_
      refine k_istore_n C 28 [(3, .int (nI a)), (0, .ref (ga g 91)), (1, .int (nI (10 * (TL + 1) + TC))), (2, .int (nI w))] rfl (by decide) rfl dX10_reply_27 rfl ?_
      refine k_iload_n C 29 0 rfl rfl dX10_reply_28 rfl ?_
      refine k_if_ge C 39 32 dX10_reply_29 (by decide) rfl (fun c29 => ?_) (fun d29 => ?_)
      · skip
        have c29 := (nI_leI (by omega) (by omega)).mp (show nI 0 ≤ nI a from c29)
        refine k_bipush C 41 (v := 6) (by decide) dX10_reply_39 rfl ?_
        refine k_aload_n C 42 1 rfl rfl dX10_reply_41 rfl ?_
        refine k_iload_n C 43 0 rfl rfl dX10_reply_42 rfl ?_
        refine k_iconst C 44 (v := 2) (by decide) dX10_reply_43 rfl ?_
        refine k_callVE C 47 (As := [.int (nI a), .int 2]) (st := [.int 6]) 91 (by decide) (ce_91 g _) rfl rfl mwX10_58 vlX10_of (qX10_of l g M (f := a) (w := 2) (by omega) (by omega)) mlX10_of (by decide) (by decide) rfl rfl (Nat.le_of_ble_eq_true rfl) dX10_reply_44 rfl ?_
        refine k_teq (y := nI (L + 1)) hL2 ?_
        refine k_iconst C 48 (v := 1) (by decide) dX10_reply_47 rfl ?_
        refine k_isub C 49 dX10_reply_48 rfl ?_
        refine k_teq (y := nI L) (nI_pred L) ?_
        refine k_imul C 50 dX10_reply_49 rfl ?_
        refine k_teq (pk_mul 6 L) ?_
        refine k_aload_n C 51 1 rfl rfl dX10_reply_50 rfl ?_
        refine k_iload_n C 52 0 rfl rfl dX10_reply_51 rfl ?_
        refine k_iconst C 53 (v := 3) (by decide) dX10_reply_52 rfl ?_
        refine k_callVE C 56 (As := [.int (nI a), .int 3]) (st := [.int (nI (6 * L))]) 91 (by decide) (ce_91 g _) rfl rfl mwX10_58 vlX10_of (qX10_of l g M (f := a) (w := 3) (by omega) (by omega)) mlX10_of (by decide) (by decide) rfl rfl (Nat.le_of_ble_eq_true rfl) dX10_reply_53 rfl ?_
        refine k_teq (y := nI CR) hL3 ?_
        refine k_iadd C 57 dX10_reply_56 rfl ?_
        refine k_teq (nI_add (6 * L) CR) ?_
        refine k_istore C 59 [(4, .int (nI ((6 * L) + CR))), (3, .int (nI a)), (0, .ref (ga g 91)), (1, .int (nI (10 * (TL + 1) + TC))), (2, .int (nI w))]  (by decide) rfl dX10_reply_57 rfl ?_
        refine k_aload_n C 60 2 rfl rfl dX10_reply_59 rfl ?_
        refine k_bipush C 62 (v := 6) (by decide) dX10_reply_60 rfl ?_
        refine k_iload_n C 63 3 rfl rfl dX10_reply_62 rfl ?_
        refine k_bipush C 65 (v := 10) (by decide) dX10_reply_63 rfl ?_
        refine k_idiv C 66 (by decide) dX10_reply_65 rfl ?_
        refine k_teq (pk_div (a := 10 * (TL + 1) + TC) (d := 10) (by omega) (by decide) (by decide)) ?_
        refine k_iconst C 67 (v := 1) (by decide) dX10_reply_66 rfl ?_
        refine k_isub C 68 dX10_reply_67 rfl ?_
        refine k_teq (y := nI TL) (by rw [show (10 * (TL + 1) + TC) / 10 = TL + 1 by omega]; exact nI_pred TL) ?_
        refine k_imul C 69 dX10_reply_68 rfl ?_
        refine k_teq (pk_mul 6 TL) ?_
        refine k_iload_n C 70 3 rfl rfl dX10_reply_69 rfl ?_
        refine k_bipush C 72 (v := 10) (by decide) dX10_reply_70 rfl ?_
        refine k_irem C 73 (by decide) dX10_reply_72 rfl ?_
        refine k_teq (pk_rem (a := 10 * (TL + 1) + TC) (d := 10) (by omega) (by decide) (by decide)) ?_
        refine k_teq (y := nI TC) (by rw [show (10 * (TL + 1) + TC) % 10 = TC by omega]) ?_
        refine k_iadd C 74 dX10_reply_73 rfl ?_
        refine k_teq (nI_add (6 * TL) TC) ?_
        refine k_callVV C 77 (As := [.int (nI ((6 * TL) + TC))]) (st := []) 91 (by decide) (ce_91 g _) rfl rfl mwX10_218 vlX10_findCosts (qX10_findCosts l g M (t := 6 * TL + TC) (by omega) p hL st hst) mlX10_findCosts (by decide) (by decide) rfl rfl (Nat.le_of_ble_eq_true rfl) dX10_reply_74 rfl (fun M1 h1 => ?_)
        obtain ⟨cc, hI, hE⟩ := h1
        refine k_iload_n C 78 4 rfl rfl dX10_reply_77 rfl ?_
        refine k_if_ne C 89 81 dX10_reply_78 (by decide) rfl (fun c78 => ?_) (fun d78 => ?_)
        · skip
          have c78 := mt (nI_eq (by omega) (by omega)).mpr (show ¬ (nI w = nI 0) from c78)
          refine k_iconst C 90 (v := 0) (by decide) dX10_reply_89 rfl ?_
          refine k_istore C 92 [(5, .int 0), (4, .int (nI ((6 * L) + CR))), (3, .int (nI a)), (0, .ref (ga g 91)), (1, .int (nI (10 * (TL + 1) + TC))), (2, .int (nI w))]  (by decide) rfl dX10_reply_90 rfl ?_
          refine k_sub [(0, .ref (ga g 91)), (4, .int (nI ((6 * L) + CR))), (5, .int 0)] [3, 1, 0] rfl ?_
          refine k_all (M' := M1) (lo' := [(0, .ref (ga g 91)), (4, .int (nI ((6 * L) + CR))), (5, .int (nI 0))]) (st' := []) (by rfl) (by rfl) rfl ?_
          refine k_loop (σ := Nat × Mem) (fun (v : Nat × Mem) => match v with | (b, M2) => (b ≤ 72) ∧ (fcI M M2 st (6 * TL + TC) cc) ∧ (pFit (fun kk => decide (st (6 * L + CR) kk ≠ 0 ∧ cc kk + st (6 * L + CR) kk = cc (6 * L + CR))) 72 0 = pFit (fun kk => decide (st (6 * L + CR) kk ≠ 0 ∧ cc kk + st (6 * L + CR) kk = cc (6 * L + CR))) (72 - b) b)) (fun (v : Nat × Mem) => match v with | (b, M2) => 72 - b) (fun (v : Nat × Mem) => match v with | (b, M2) => M2) (fun (v : Nat × Mem) => match v with | (b, M2) => [(0, .ref (ga g 91)), (4, .int (nI ((6 * L) + CR))), (5, .int (nI b))]) (0, M1) (show (0 ≤ 72) ∧ (fcI M M1 st (6 * TL + TC) cc) ∧ (pFit (fun kk => decide (st (6 * L + CR) kk ≠ 0 ∧ cc kk + st (6 * L + CR) kk = cc (6 * L + CR))) 72 0 = pFit (fun kk => decide (st (6 * L + CR) kk ≠ 0 ∧ cc kk + st (6 * L + CR) kk = cc (6 * L + CR))) (72 - 0) 0) from by exact ⟨Nat.zero_le _, hI, rfl⟩) ?_
          rintro ⟨b, M2⟩ hI ih
          have hI : (b ≤ 72) ∧ (fcI M M2 st (6 * TL + TC) cc) ∧ (pFit (fun kk => decide (st (6 * L + CR) kk ≠ 0 ∧ cc kk + st (6 * L + CR) kk = cc (6 * L + CR))) 72 0 = pFit (fun kk => decide (st (6 * L + CR) kk ≠ 0 ∧ cc kk + st (6 * L + CR) kk = cc (6 * L + CR))) (72 - b) b) := hI
          obtain ⟨hb, hI2, he⟩ := hI
          show KW pP l eE RR sS mI aG bB mE cD g 7 _ (M2) 92 [(0, .ref (ga g 91)), (4, .int (nI ((6 * L) + CR))), (5, .int (nI b))] []
          have hcf := hI2.2.2.1 (6 * L + CR) (by omega)
          refine k_iload C 94 2  rfl dX10_reply_92 rfl ?_
          refine k_bipush C 96 (v := 72) (by decide) dX10_reply_94 rfl ?_
          refine k_icmp_ge C 167 99 dX10_reply_96 (by decide) rfl (fun c96 => ?_) (fun d96 => ?_)
          · skip
            have c96 := (nI_leI (by omega) (by omega)).mp (show nI 72 ≤ nI b from c96)
            refine k_iconst C 168 (v := (-1)) (by decide) dX10_reply_167 rfl ?_
            refine k_ret C rfl dX10_reply_168 ?_
            exact ⟨cc, hI2, hE, by rw [if_neg c78, pRp_n (he.trans (pFit_end (by omega)))]⟩
          · skip
            have d96 := mt (nI_leI (by omega) (by omega)).mpr (show ¬ (nI 72 ≤ nI b) from d96)
            refine k_aload_n C 100 0 rfl rfl dX10_reply_99 rfl ?_
            refine k_get C 103 flX10_43 91 (by decide) (v := .ref (ga g 103)) (ce_91 g _) rfl dX10_reply_100 rfl ?_
            refine k_iload C 105 1  rfl dX10_reply_103 rfl ?_
            refine k_iald C 106 103 ((6 * L) + CR) (by decide) (ce_103 g) (by decide) rfl (by omega) dX10_reply_105 rfl ?_
            refine k_teq (y := nI (cc (6 * L + CR))) (hI2.2.1 _ (by omega)) ?_
            refine k_if_le C 167 109 dX10_reply_106 (by decide) rfl (fun c106 => ?_) (fun d106 => ?_)
            · skip
              have c106 := (nI_leI (by omega) (by omega)).mp (show nI (cc (6 * L + CR)) ≤ nI 0 from c106)
              refine k_iconst C 168 (v := (-1)) (by decide) dX10_reply_167 rfl ?_
              refine k_ret C rfl dX10_reply_168 ?_
              exact ⟨cc, hI2, hE, by rw [if_neg c78, pRp_0 (by omega)]⟩
            · skip
              have d106 := mt (nI_leI (by omega) (by omega)).mpr (show ¬ (nI (cc (6 * L + CR)) ≤ nI 0) from d106)
              refine k_aload_n C 110 0 rfl rfl dX10_reply_109 rfl ?_
              refine k_iload C 112 1  rfl dX10_reply_110 rfl ?_
              refine k_iload C 114 2  rfl dX10_reply_112 rfl ?_
              refine k_callVI C 117 (As := [.int (nI ((6 * L) + CR)), .int (nI b)]) (st := []) 91 (by decide) (ce_91 g _) rfl rfl mwX10_212 vlX10_stepCost (qX10_stepCost l g M2 (a := 6 * L + CR) (b := b) (by omega) (by omega) p (mlawOk_of hL (hI2.1 92 (by decide) (by decide) (by decide)))) mlX10_stepCost (by decide) (by decide) rfl rfl (Nat.le_of_ble_eq_true rfl) dX10_reply_114 rfl (fun r4 M4 h4 => ?_)
              obtain ⟨hr4, hs4⟩ := h4
              rw [show M2 92 = M 92 from (hI2.1 92 (by decide) (by decide) (by decide))] at hr4
              refine k_istore C 119 [(6, .int r4), (0, .ref (ga g 91)), (4, .int (nI ((6 * L) + CR))), (5, .int (nI b))]  (by decide) rfl dX10_reply_117 rfl ?_
              refine k_iload C 121 0  rfl dX10_reply_119 rfl ?_
              refine k_if_le C 161 124 dX10_reply_121 (by decide) rfl (fun c121 => ?_) (fun d121 => ?_)
              · skip
                refine k_iinc C 164 (nI (b + 1)) 3 [(5, .int (nI (b + 1))), (6, .int r4), (0, .ref (ga g 91)), (4, .int (nI ((6 * L) + CR)))] rfl (iinc_p b) (by decide) rfl dX10_reply_161 rfl ?_
                refine k_goto C 92 dX10_reply_164 (by decide) ?_
                refine k_sub [(0, .ref (ga g 91)), (4, .int (nI ((6 * L) + CR))), (5, .int (nI (b + 1)))] [2, 3, 0] rfl ?_
                refine k_all (M' := M4) (lo' := [(0, .ref (ga g 91)), (4, .int (nI ((6 * L) + CR))), (5, .int (nI (b + 1)))]) (st' := []) (by rfl) (by rfl) rfl ?_
                exact ih (b + 1, M4) (show ((b + 1) ≤ 72) ∧ (fcI M M4 st (6 * TL + TC) cc) ∧ (pFit (fun kk => decide (st (6 * L + CR) kk ≠ 0 ∧ cc kk + st (6 * L + CR) kk = cc (6 * L + CR))) 72 0 = pFit (fun kk => decide (st (6 * L + CR) kk ≠ 0 ∧ cc kk + st (6 * L + CR) kk = cc (6 * L + CR))) (72 - (b + 1)) (b + 1)) from by exact ⟨by omega, fcI_mv hI2 hs4, by rw [he, pFit_go (by omega) (decide_eq_false (fun q => q.1 (stOk_lt hst (by omega) (by omega) (by rw [← hr4]; exact c121))))]⟩) (by show 72 - (b + 1) < 72 - b; omega)
              · skip
                obtain ⟨hst0, hst1⟩ := stOk_gt hst (a := 6 * L + CR) (b := b) (by omega) (by omega) (by rw [← hr4]; exact d121)
                have hst9 := (hst (6 * L + CR) (b) (by omega) (by omega)).2
                refine k_lo (lo' := [(6, .int (nI (st (6 * L + CR) b))), (0, .ref (ga g 91)), (4, .int (nI ((6 * L) + CR))), (5, .int (nI b))]) (by rw [hr4, hst1]) ?_
                have hcb := hI2.2.2.1 b (by omega)
                refine k_aload_n C 125 1 rfl rfl dX10_reply_124 rfl ?_
                refine k_get C 128 flX10_43 91 (by decide) (v := .ref (ga g 103)) (ce_91 g _) rfl dX10_reply_125 rfl ?_
                refine k_iload C 130 3  rfl dX10_reply_128 rfl ?_
                refine k_iald C 131 103 b (by decide) (ce_103 g) (by decide) rfl (by omega) dX10_reply_130 rfl ?_
                refine k_teq (y := nI (cc b)) (by rw [hs4 103 (by decide) (by decide)]; exact hI2.2.1 b (by omega)) ?_
                refine k_iload C 133 0  rfl dX10_reply_131 rfl ?_
                refine k_iadd C 134 dX10_reply_133 rfl ?_
                refine k_teq (nI_add (cc b) (st (6 * L + CR) b)) ?_
                refine k_aload_n C 135 1 rfl rfl dX10_reply_134 rfl ?_
                refine k_get C 138 flX10_43 91 (by decide) (v := .ref (ga g 103)) (ce_91 g _) rfl dX10_reply_135 rfl ?_
                refine k_iload C 140 2  rfl dX10_reply_138 rfl ?_
                refine k_iald C 141 103 ((6 * L) + CR) (by decide) (ce_103 g) (by decide) rfl (by omega) dX10_reply_140 rfl ?_
                refine k_teq (y := nI (cc (6 * L + CR))) (by rw [hs4 103 (by decide) (by decide)]; exact hI2.2.1 _ (by omega)) ?_
                refine k_icmp_ne C 161 144 dX10_reply_141 (by decide) rfl (fun c141 => ?_) (fun d141 => ?_)
                · skip
                  have c141 := mt (nI_eq (by omega) (by omega)).mpr (show ¬ (nI ((cc b) + (st (6 * L + CR) b)) = nI (cc (6 * L + CR))) from c141)
                  refine k_iinc C 164 (nI (b + 1)) 3 [(5, .int (nI (b + 1))), (6, .int (nI (st (6 * L + CR) b))), (0, .ref (ga g 91)), (4, .int (nI ((6 * L) + CR)))] rfl (iinc_p b) (by decide) rfl dX10_reply_161 rfl ?_
                  refine k_goto C 92 dX10_reply_164 (by decide) ?_
                  refine k_sub [(0, .ref (ga g 91)), (4, .int (nI ((6 * L) + CR))), (5, .int (nI (b + 1)))] [2, 3, 0] rfl ?_
                  refine k_all (M' := M4) (lo' := [(0, .ref (ga g 91)), (4, .int (nI ((6 * L) + CR))), (5, .int (nI (b + 1)))]) (st' := []) (by rfl) (by rfl) rfl ?_
                  exact ih (b + 1, M4) (show ((b + 1) ≤ 72) ∧ (fcI M M4 st (6 * TL + TC) cc) ∧ (pFit (fun kk => decide (st (6 * L + CR) kk ≠ 0 ∧ cc kk + st (6 * L + CR) kk = cc (6 * L + CR))) 72 0 = pFit (fun kk => decide (st (6 * L + CR) kk ≠ 0 ∧ cc kk + st (6 * L + CR) kk = cc (6 * L + CR))) (72 - (b + 1)) (b + 1)) from by exact ⟨by omega, fcI_mv hI2 hs4, by rw [he, pFit_go (by omega) (decide_eq_false (fun q => c141 q.2))]⟩) (by show 72 - (b + 1) < 72 - b; omega)
                · skip
                  have d141 := (nI_eq (by omega) (by omega)).mp (show nI ((cc b) + (st (6 * L + CR) b)) = nI (cc (6 * L + CR)) from d141)
                  refine k_bipush C 146 (v := 10) (by decide) dX10_reply_144 rfl ?_
                  refine k_iconst C 147 (v := 1) (by decide) dX10_reply_146 rfl ?_
                  refine k_iload C 149 3  rfl dX10_reply_147 rfl ?_
                  refine k_bipush C 151 (v := 6) (by decide) dX10_reply_149 rfl ?_
                  refine k_idiv C 152 (by decide) dX10_reply_151 rfl ?_
                  refine k_teq (pk_div (a := b) (d := 6) (by omega) (by decide) (by decide)) ?_
                  refine k_iadd C 153 dX10_reply_152 rfl ?_
                  refine k_teq (nI_add 1 (b / 6)) ?_
                  refine k_imul C 154 dX10_reply_153 rfl ?_
                  refine k_teq (pk_mul 10 (1 + (b / 6))) ?_
                  refine k_iload C 156 3  rfl dX10_reply_154 rfl ?_
                  refine k_bipush C 158 (v := 6) (by decide) dX10_reply_156 rfl ?_
                  refine k_irem C 159 (by decide) dX10_reply_158 rfl ?_
                  refine k_teq (pk_rem (a := b) (d := 6) (by omega) (by decide) (by decide)) ?_
                  refine k_iadd C 160 dX10_reply_159 rfl ?_
                  refine k_teq (nI_add (10 * (1 + (b / 6))) (b % 6)) ?_
                  refine k_ret C rfl dX10_reply_160 ?_
                  exact ⟨cc, fcI_mv hI2 hs4, hE, by rw [if_neg c78, pRp_s (by omega) (he.trans (pFit_hit (by omega) (decide_eq_true ⟨hst0, d141⟩)))]⟩
        · skip
          have d78 := (nI_eq (by omega) (by omega)).mp (show nI w = nI 0 from d78)
          refine k_aload_n C 82 2 rfl rfl dX10_reply_81 rfl ?_
          refine k_get C 85 flX10_43 91 (by decide) (v := .ref (ga g 103)) (ce_91 g _) rfl dX10_reply_82 rfl ?_
          refine k_iload C 87 0  rfl dX10_reply_85 rfl ?_
          refine k_iald C 88 103 ((6 * L) + CR) (by decide) (ce_103 g) (by decide) rfl (by omega) dX10_reply_87 rfl ?_
          refine k_teq (y := nI (cc (6 * L + CR))) (hI.2.1 _ (by omega)) ?_
          refine k_ret C rfl dX10_reply_88 ?_
          exact ⟨cc, hI, hE, (if_pos d78).symm⟩
      · skip
        have d29 := mt (nI_leI (by omega) (by omega)).mpr (show ¬ (nI 0 ≤ nI a) from d29)
        exact absurd d29 (by omega)
    · skip
      exact (bz d13 (rg_le (a := 0) (b := 1) (Nat.zero_le _) (by omega) (by decide))).elim
set_option maxHeartbeats 4000000 in
set_option maxRecDepth 20000 in
theorem qX10_odds_f (l : Launch) (g : GT) (M : Mem) (km h w : Int32) (hf : (pKm km && (decide (0 ≤ h) && decide (h ≤ 5)) && (decide (0 ≤ w) && decide (w ≤ 1))) = false) : CtrE l g yX10_odds cX10_odds 8 (some .int) 4 [.ref (ga g 91), .int km, .int h, .int w] M (-1000000001) (mu M 95 1 (M 95 1 + 1)) := by
  refine ctrI_of (by decide +kernel) (Nat.le_of_ble_eq_true rfl) ?_
  intro pP eE RR sS mI aG bB mE cD C
  refine k_lo (lo' := [(0, .ref (ga g 91)), (1, .int km), (2, .int h), (3, .int w)]) rfl ?_
  refine k_iload_n C 1 1 rfl rfl dX10_odds_0 rfl ?_
  refine k_callSE C 4 (As := [.int km]) (st := []) mwX10_88 skX10_isKm (qX10_isKm l g M km) mlX10_isKm (by decide) (by decide) rfl rfl (Nat.le_of_ble_eq_true rfl) dX10_odds_1 rfl ?_
  refine k_if_eqB C 25 7 dX10_odds_4 (by decide) rfl (fun c4 => ?_) (fun d4 => ?_)
  · skip
    refine k_aload_n C 26 0 rfl rfl dX10_odds_25 rfl ?_
    refine k_ldc C 28 cwX10_94 dX10_odds_26 rfl ?_
    refine k_callVE C 31 (As := [.int (-1000000001)]) (st := []) 91 (by decide) (ce_91 g _) rfl rfl mwX10_95 vlX10_error (qX10_error l g M (-1000000001) (k := 1) (by decide) (by decide)) mlX10_error (by decide) (by decide) rfl rfl (Nat.le_of_ble_eq_true rfl) dX10_odds_28 rfl ?_
    refine k_ret C rfl dX10_odds_31 ?_
    exact ⟨rfl, rfl⟩
  · skip
    refine k_iload_n C 8 2 rfl rfl dX10_odds_7 rfl ?_
    refine k_iconst C 9 (v := 0) (by decide) dX10_odds_8 rfl ?_
    refine k_iconst C 10 (v := 5) (by decide) dX10_odds_9 rfl ?_
    refine k_callSE C 13 (As := [.int h, .int 0, .int 5]) (st := []) mwX10_54 skX10_in (qX10_in l g M h 0 5) mlX10_in (by decide) (by decide) rfl rfl (Nat.le_of_ble_eq_true rfl) dX10_odds_10 rfl ?_
    refine k_if_eqB C 25 16 dX10_odds_13 (by decide) rfl (fun c13 => ?_) (fun d13 => ?_)
    · skip
      refine k_aload_n C 26 0 rfl rfl dX10_odds_25 rfl ?_
      refine k_ldc C 28 cwX10_94 dX10_odds_26 rfl ?_
      refine k_callVE C 31 (As := [.int (-1000000001)]) (st := []) 91 (by decide) (ce_91 g _) rfl rfl mwX10_95 vlX10_error (qX10_error l g M (-1000000001) (k := 1) (by decide) (by decide)) mlX10_error (by decide) (by decide) rfl rfl (Nat.le_of_ble_eq_true rfl) dX10_odds_28 rfl ?_
      refine k_ret C rfl dX10_odds_31 ?_
      exact ⟨rfl, rfl⟩
    · skip
      refine k_iload_n C 17 3 rfl rfl dX10_odds_16 rfl ?_
      refine k_iconst C 18 (v := 0) (by decide) dX10_odds_17 rfl ?_
      refine k_iconst C 19 (v := 1) (by decide) dX10_odds_18 rfl ?_
      refine k_callSE C 22 (As := [.int w, .int 0, .int 1]) (st := []) mwX10_54 skX10_in (qX10_in l g M w 0 1) mlX10_in (by decide) (by decide) rfl rfl (Nat.le_of_ble_eq_true rfl) dX10_odds_19 rfl ?_
      refine k_if_neB C 32 25 dX10_odds_22 (by decide) rfl (fun c22 => ?_) (fun d22 => ?_)
      · skip
        exact (bz hf (by simp [d4, d13, c22])).elim
      · skip
        refine k_aload_n C 26 0 rfl rfl dX10_odds_25 rfl ?_
        refine k_ldc C 28 cwX10_94 dX10_odds_26 rfl ?_
        refine k_callVE C 31 (As := [.int (-1000000001)]) (st := []) 91 (by decide) (ce_91 g _) rfl rfl mwX10_95 vlX10_error (qX10_error l g M (-1000000001) (k := 1) (by decide) (by decide)) mlX10_error (by decide) (by decide) rfl rfl (Nat.le_of_ble_eq_true rfl) dX10_odds_28 rfl ?_
        refine k_ret C rfl dX10_odds_31 ?_
        exact ⟨rfl, rfl⟩
set_option maxHeartbeats 4000000 in
set_option maxRecDepth 20000 in
theorem qX10_odds_0 (l : Launch) (g : GT) (M : Mem) {n : Nat} (hn : M 92 2 = nI n) (h12 : n ≤ 12) (km : Int32) (h1 : pKm km = true) (h : Int32) (h2 : (decide (0 ≤ h) && decide (h ≤ 5)) = true) {w : Nat} (hw : w < 2) (ho : pAhead (mF M) n = none) : CtrE l g yX10_odds cX10_odds 8 (some .int) 4 [.ref (ga g 91), .int km, .int h, .int (nI w)] M (-1000000003) (mu M 95 3 (M 95 3 + 1)) := by
  refine ctrI_of (by decide +kernel) (Nat.le_of_ble_eq_true rfl) ?_
  intro pP eE RR sS mI aG bB mE cD C
  refine k_lo (lo' := [(0, .ref (ga g 91)), (1, .int km), (2, .int h), (3, .int (nI w))]) rfl ?_
  refine k_iload_n C 1 1 rfl rfl dX10_odds_0 rfl ?_
  refine k_callSE C 4 (As := [.int km]) (st := []) mwX10_88 skX10_isKm (qX10_isKm l g M km) mlX10_isKm (by decide) (by decide) rfl rfl (Nat.le_of_ble_eq_true rfl) dX10_odds_1 rfl ?_
  refine k_if_eqB C 25 7 dX10_odds_4 (by decide) rfl (fun c4 => ?_) (fun d4 => ?_)
  · skip
    exact (bz c4 h1).elim
  · skip
    refine k_iload_n C 8 2 rfl rfl dX10_odds_7 rfl ?_
    refine k_iconst C 9 (v := 0) (by decide) dX10_odds_8 rfl ?_
    refine k_iconst C 10 (v := 5) (by decide) dX10_odds_9 rfl ?_
    refine k_callSE C 13 (As := [.int h, .int 0, .int 5]) (st := []) mwX10_54 skX10_in (qX10_in l g M h 0 5) mlX10_in (by decide) (by decide) rfl rfl (Nat.le_of_ble_eq_true rfl) dX10_odds_10 rfl ?_
    refine k_if_eqB C 25 16 dX10_odds_13 (by decide) rfl (fun c13 => ?_) (fun d13 => ?_)
    · skip
      exact (bz c13 h2).elim
    · skip
      refine k_iload_n C 17 3 rfl rfl dX10_odds_16 rfl ?_
      refine k_iconst C 18 (v := 0) (by decide) dX10_odds_17 rfl ?_
      refine k_iconst C 19 (v := 1) (by decide) dX10_odds_18 rfl ?_
      refine k_callSE C 22 (As := [.int (nI w), .int 0, .int 1]) (st := []) mwX10_54 skX10_in (qX10_in l g M (nI w) 0 1) mlX10_in (by decide) (by decide) rfl rfl (Nat.le_of_ble_eq_true rfl) dX10_odds_19 rfl ?_
      refine k_if_neB C 32 25 dX10_odds_22 (by decide) rfl (fun c22 => ?_) (fun d22 => ?_)
      · skip
        refine k_aload_n C 33 0 rfl rfl dX10_odds_32 rfl ?_
        refine k_callVE C 36 (As := []) (st := []) 91 (by decide) (ce_91 g _) rfl rfl mwX10_215 vlX10_lastSeen (qX10_lastSeen l g M (n := n) hn h12) mlX10_lastSeen (by decide) (by decide) rfl rfl (Nat.le_of_ble_eq_true rfl) dX10_odds_33 rfl ?_
        refine k_teq (y := (-1)) (by rw [ho]; rfl) ?_
        refine k_istore C 38 [(4, .int (-1)), (0, .ref (ga g 91)), (1, .int km), (2, .int h), (3, .int (nI w))]  (by decide) rfl dX10_odds_36 rfl ?_
        refine k_iload C 40 0  rfl dX10_odds_38 rfl ?_
        refine k_if_lt C 54 43 dX10_odds_40 (by decide) rfl (fun c40 => ?_) (fun d40 => ?_)
        · skip
          refine k_aload_n C 55 1 rfl rfl dX10_odds_54 rfl ?_
          refine k_ldc C 57 cwX10_180 dX10_odds_55 rfl ?_
          refine k_callVE C 60 (As := [.int (-1000000003)]) (st := []) 91 (by decide) (ce_91 g _) rfl rfl mwX10_95 vlX10_error (qX10_error l g M (-1000000003) (k := 3) (by decide) (by decide)) mlX10_error (by decide) (by decide) rfl rfl (Nat.le_of_ble_eq_true rfl) dX10_odds_57 rfl ?_
          refine k_ret C rfl dX10_odds_60 ?_
          exact ⟨rfl, rfl⟩
        · skip
          exact absurd d40 (by decide)
      · skip
        exact (bz d22 (rg_le (a := 0) (b := 1) (Nat.zero_le _) (by omega) (by decide))).elim
set_option maxHeartbeats 4000000 in
set_option maxRecDepth 20000 in
theorem qX10_odds_full (l : Launch) (g : GT) (M : Mem) {n : Nat} (hn : M 92 2 = nI n) (h12 : n ≤ 12) (km : Int32) (h1 : pKm km = true) (h : Int32) (h2 : (decide (0 ≤ h) && decide (h ≤ 5)) = true) {w : Nat} (hw : w < 2) (hf : n = 12) : CtrE l g yX10_odds cX10_odds 8 (some .int) 4 [.ref (ga g 91), .int km, .int h, .int (nI w)] M (-1000000003) (mu M 95 3 (M 95 3 + 1)) := by
  refine ctrI_of (by decide +kernel) (Nat.le_of_ble_eq_true rfl) ?_
  intro pP eE RR sS mI aG bB mE cD C
  refine k_lo (lo' := [(0, .ref (ga g 91)), (1, .int km), (2, .int h), (3, .int (nI w))]) rfl ?_
  refine k_iload_n C 1 1 rfl rfl dX10_odds_0 rfl ?_
  refine k_callSE C 4 (As := [.int km]) (st := []) mwX10_88 skX10_isKm (qX10_isKm l g M km) mlX10_isKm (by decide) (by decide) rfl rfl (Nat.le_of_ble_eq_true rfl) dX10_odds_1 rfl ?_
  refine k_if_eqB C 25 7 dX10_odds_4 (by decide) rfl (fun c4 => ?_) (fun d4 => ?_)
  · skip
    exact (bz c4 h1).elim
  · skip
    refine k_iload_n C 8 2 rfl rfl dX10_odds_7 rfl ?_
    refine k_iconst C 9 (v := 0) (by decide) dX10_odds_8 rfl ?_
    refine k_iconst C 10 (v := 5) (by decide) dX10_odds_9 rfl ?_
    refine k_callSE C 13 (As := [.int h, .int 0, .int 5]) (st := []) mwX10_54 skX10_in (qX10_in l g M h 0 5) mlX10_in (by decide) (by decide) rfl rfl (Nat.le_of_ble_eq_true rfl) dX10_odds_10 rfl ?_
    refine k_if_eqB C 25 16 dX10_odds_13 (by decide) rfl (fun c13 => ?_) (fun d13 => ?_)
    · skip
      exact (bz c13 h2).elim
    · skip
      refine k_iload_n C 17 3 rfl rfl dX10_odds_16 rfl ?_
      refine k_iconst C 18 (v := 0) (by decide) dX10_odds_17 rfl ?_
      refine k_iconst C 19 (v := 1) (by decide) dX10_odds_18 rfl ?_
      refine k_callSE C 22 (As := [.int (nI w), .int 0, .int 1]) (st := []) mwX10_54 skX10_in (qX10_in l g M (nI w) 0 1) mlX10_in (by decide) (by decide) rfl rfl (Nat.le_of_ble_eq_true rfl) dX10_odds_19 rfl ?_
      refine k_if_neB C 32 25 dX10_odds_22 (by decide) rfl (fun c22 => ?_) (fun d22 => ?_)
      · skip
        refine k_aload_n C 33 0 rfl rfl dX10_odds_32 rfl ?_
        refine k_callVE C 36 (As := []) (st := []) 91 (by decide) (ce_91 g _) rfl rfl mwX10_215 vlX10_lastSeen (qX10_lastSeen l g M (n := n) hn h12) mlX10_lastSeen (by decide) (by decide) rfl rfl (Nat.le_of_ble_eq_true rfl) dX10_odds_33 rfl ?_
        refine k_istore C 38 [(4, .int (oI (pAhead (mF M) n))), (0, .ref (ga g 91)), (1, .int km), (2, .int h), (3, .int (nI w))]  (by decide) rfl dX10_odds_36 rfl ?_
        refine k_iload C 40 0  rfl dX10_odds_38 rfl ?_
        rcases q40 : pAhead (mF M) n with _ | a
        · skip
          have q40n := q40
          refine k_teq (y := (-1)) rfl ?_
          refine k_lo (lo' := [(4, .int (-1)), (0, .ref (ga g 91)), (1, .int km), (2, .int h), (3, .int (nI w))]) rfl ?_
          refine k_if_lt C 54 43 dX10_odds_40 (by decide) rfl (fun c40 => ?_) (fun d40 => ?_)
          · skip
            refine k_aload_n C 55 1 rfl rfl dX10_odds_54 rfl ?_
            refine k_ldc C 57 cwX10_180 dX10_odds_55 rfl ?_
            refine k_callVE C 60 (As := [.int (-1000000003)]) (st := []) 91 (by decide) (ce_91 g _) rfl rfl mwX10_95 vlX10_error (qX10_error l g M (-1000000003) (k := 3) (by decide) (by decide)) mlX10_error (by decide) (by decide) rfl rfl (Nat.le_of_ble_eq_true rfl) dX10_odds_57 rfl ?_
            refine k_ret C rfl dX10_odds_60 ?_
            exact ⟨rfl, rfl⟩
          · skip
            exact absurd d40 (by decide)
        · skip
          have q40s := q40
          refine k_teq (y := nI a) rfl ?_
          refine k_lo (lo' := [(4, .int (nI a)), (0, .ref (ga g 91)), (1, .int km), (2, .int h), (3, .int (nI w))]) rfl ?_
          have ha := (pAhead_in _ _ _ q40s).1
          refine k_if_lt C 54 43 dX10_odds_40 (by decide) rfl (fun c40 => ?_) (fun d40 => ?_)
          · skip
            have c40 := (nI_ltI (by omega) (by omega)).mp (show nI a < nI 0 from c40)
            exact absurd c40 (by omega)
          · skip
            have d40 := mt (nI_ltI (by omega) (by omega)).mpr (show ¬ (nI a < nI 0) from d40)
            refine k_aload_n C 44 1 rfl rfl dX10_odds_43 rfl ?_
            refine k_get C 47 flX10_9 91 (by decide) (v := .ref (ga g 92)) (ce_91 g _) rfl dX10_odds_44 rfl ?_
            refine k_iconst C 48 (v := 2) (by decide) dX10_odds_47 rfl ?_
            refine k_iald C 49 92 2 (by decide) (ce_92 g) (by decide) rfl (by omega) dX10_odds_48 rfl ?_
            refine k_teq (y := nI n) hn ?_
            refine k_bipush C 51 (v := 12) (by decide) dX10_odds_49 rfl ?_
            refine k_icmp_ne C 61 54 dX10_odds_51 (by decide) rfl (fun c51 => ?_) (fun d51 => ?_)
            · skip
              have c51 := mt (nI_eq (by omega) (by omega)).mpr (show ¬ (nI n = nI 12) from c51)
              exact absurd hf c51
            · skip
              have d51 := (nI_eq (by omega) (by omega)).mp (show nI n = nI 12 from d51)
              refine k_aload_n C 55 1 rfl rfl dX10_odds_54 rfl ?_
              refine k_ldc C 57 cwX10_180 dX10_odds_55 rfl ?_
              refine k_callVE C 60 (As := [.int (-1000000003)]) (st := []) 91 (by decide) (ce_91 g _) rfl rfl mwX10_95 vlX10_error (qX10_error l g M (-1000000003) (k := 3) (by decide) (by decide)) mlX10_error (by decide) (by decide) rfl rfl (Nat.le_of_ble_eq_true rfl) dX10_odds_57 rfl ?_
              refine k_ret C rfl dX10_odds_60 ?_
              exact ⟨rfl, rfl⟩
      · skip
        exact (bz d22 (rg_le (a := 0) (b := 1) (Nat.zero_le _) (by omega) (by decide))).elim
set_option maxHeartbeats 4000000 in
set_option maxRecDepth 20000 in
theorem qX10_odds_t (l : Launch) (g : GT) (M : Mem) {n : Nat} (hn : M 92 2 = nI n) (h12 : n < 12) (km : Int32) (h1 : pKm km = true) (h : Int32) (h2 : (decide (0 ≤ h) && decide (h ≤ 5)) = true) {w : Nat} (hw : w < 2) {a : Nat} (ha : pAhead (mF M) n = some a) : CtrI l g yX10_odds cX10_odds 8 (some .int) 4 [.ref (ga g 91), .int km, .int h, .int (nI w)] M (fun r M1 => r = nI (if w = 0 then (odR 72 (pEch km h (mF M a) 72) 72).1 else (odR 72 (pEch km h (mF M a) 72) 72).2) ∧ (∀ q, q ≠ 92 → M1 q = M q) ∧ (∀ q, ¬ (6 + 7 * n ≤ q ∧ q < 6 + 7 * n + 7) → M1 92 q = M 92 q)) := by
  refine ctrI_of (by decide +kernel) (Nat.le_of_ble_eq_true rfl) ?_
  intro pP eE RR sS mI aG bB mE cD C
  refine k_lo (lo' := [(0, .ref (ga g 91)), (1, .int km), (2, .int h), (3, .int (nI w))]) rfl ?_
  have han := (pAhead_in _ _ _ ha).1
  have h12x : n ≤ 12 := by omega
  refine k_iload_n C 1 1 rfl rfl dX10_odds_0 rfl ?_
  refine k_callSE C 4 (As := [.int km]) (st := []) mwX10_88 skX10_isKm (qX10_isKm l g M km) mlX10_isKm (by decide) (by decide) rfl rfl (Nat.le_of_ble_eq_true rfl) dX10_odds_1 rfl ?_
  refine k_if_eqB C 25 7 dX10_odds_4 (by decide) rfl (fun c4 => ?_) (fun d4 => ?_)
  · skip
    exact (bz c4 h1).elim
  · skip
    refine k_iload_n C 8 2 rfl rfl dX10_odds_7 rfl ?_
    refine k_iconst C 9 (v := 0) (by decide) dX10_odds_8 rfl ?_
    refine k_iconst C 10 (v := 5) (by decide) dX10_odds_9 rfl ?_
    refine k_callSE C 13 (As := [.int h, .int 0, .int 5]) (st := []) mwX10_54 skX10_in (qX10_in l g M h 0 5) mlX10_in (by decide) (by decide) rfl rfl (Nat.le_of_ble_eq_true rfl) dX10_odds_10 rfl ?_
    refine k_if_eqB C 25 16 dX10_odds_13 (by decide) rfl (fun c13 => ?_) (fun d13 => ?_)
    · skip
      exact (bz c13 h2).elim
    · skip
      refine k_iload_n C 17 3 rfl rfl dX10_odds_16 rfl ?_
      refine k_iconst C 18 (v := 0) (by decide) dX10_odds_17 rfl ?_
      refine k_iconst C 19 (v := 1) (by decide) dX10_odds_18 rfl ?_
      refine k_callSE C 22 (As := [.int (nI w), .int 0, .int 1]) (st := []) mwX10_54 skX10_in (qX10_in l g M (nI w) 0 1) mlX10_in (by decide) (by decide) rfl rfl (Nat.le_of_ble_eq_true rfl) dX10_odds_19 rfl ?_
      refine k_if_neB C 32 25 dX10_odds_22 (by decide) rfl (fun c22 => ?_) (fun d22 => ?_)
      · skip
        refine k_aload_n C 33 0 rfl rfl dX10_odds_32 rfl ?_
        refine k_callVE C 36 (As := []) (st := []) 91 (by decide) (ce_91 g _) rfl rfl mwX10_215 vlX10_lastSeen (qX10_lastSeen l g M (n := n) hn h12x) mlX10_lastSeen (by decide) (by decide) rfl rfl (Nat.le_of_ble_eq_true rfl) dX10_odds_33 rfl ?_
        refine k_teq (y := nI a) (by rw [ha]; rfl) ?_
        refine k_istore C 38 [(4, .int (nI a)), (0, .ref (ga g 91)), (1, .int km), (2, .int h), (3, .int (nI w))]  (by decide) rfl dX10_odds_36 rfl ?_
        refine k_iload C 40 0  rfl dX10_odds_38 rfl ?_
        refine k_if_lt C 54 43 dX10_odds_40 (by decide) rfl (fun c40 => ?_) (fun d40 => ?_)
        · skip
          have c40 := (nI_ltI (by omega) (by omega)).mp (show nI a < nI 0 from c40)
          exact absurd c40 (by omega)
        · skip
          have d40 := mt (nI_ltI (by omega) (by omega)).mpr (show ¬ (nI a < nI 0) from d40)
          refine k_aload_n C 44 1 rfl rfl dX10_odds_43 rfl ?_
          refine k_get C 47 flX10_9 91 (by decide) (v := .ref (ga g 92)) (ce_91 g _) rfl dX10_odds_44 rfl ?_
          refine k_iconst C 48 (v := 2) (by decide) dX10_odds_47 rfl ?_
          refine k_iald C 49 92 2 (by decide) (ce_92 g) (by decide) rfl (by omega) dX10_odds_48 rfl ?_
          refine k_teq (y := nI n) hn ?_
          refine k_bipush C 51 (v := 12) (by decide) dX10_odds_49 rfl ?_
          refine k_icmp_ne C 61 54 dX10_odds_51 (by decide) rfl (fun c51 => ?_) (fun d51 => ?_)
          · skip
            have c51 := mt (nI_eq (by omega) (by omega)).mpr (show ¬ (nI n = nI 12) from c51)
            refine k_iconst C 62 (v := 0) (by decide) dX10_odds_61 rfl ?_
            refine k_istore C 64 [(5, .int 0), (4, .int (nI a)), (0, .ref (ga g 91)), (1, .int km), (2, .int h), (3, .int (nI w))]  (by decide) rfl dX10_odds_62 rfl ?_
            refine k_iconst C 65 (v := 0) (by decide) dX10_odds_64 rfl ?_
            refine k_istore C 67 [(6, .int 0), (5, .int 0), (4, .int (nI a)), (0, .ref (ga g 91)), (1, .int km), (2, .int h), (3, .int (nI w))]  (by decide) rfl dX10_odds_65 rfl ?_
            refine k_sub [(0, .ref (ga g 91)), (1, .int km), (2, .int h), (3, .int (nI w)), (4, .int (nI a)), (5, .int 0), (6, .int 0)] [3, 4, 5, 6, 2, 1, 0] rfl ?_
            refine k_all (M' := M) (lo' := [(0, .ref (ga g 91)), (1, .int km), (2, .int h), (3, .int (nI w)), (4, .int (nI a)), (5, .int (nI (pEch km h (mF M a) 0))), (6, .int (nI 0))]) (st' := []) (by rfl) (by rfl) rfl ?_
            refine k_loop (σ := Nat × Mem) (fun (v : Nat × Mem) => match v with | (i, M1) => (i ≤ 72) ∧ (∀ q, q ≠ 92 → M1 q = M q) ∧ (∀ q, ¬ (6 + 7 * n ≤ q ∧ q < 6 + 7 * n + 7) → M1 92 q = M 92 q)) (fun (v : Nat × Mem) => match v with | (i, M1) => 72 - i) (fun (v : Nat × Mem) => match v with | (i, M1) => M1) (fun (v : Nat × Mem) => match v with | (i, M1) => [(0, .ref (ga g 91)), (1, .int km), (2, .int h), (3, .int (nI w)), (4, .int (nI a)), (5, .int (nI (pEch km h (mF M a) i))), (6, .int (nI i))]) (0, M) (show (0 ≤ 72) ∧ (∀ q, q ≠ 92 → M q = M q) ∧ (∀ q, ¬ (6 + 7 * n ≤ q ∧ q < 6 + 7 * n + 7) → M 92 q = M 92 q) from by exact ⟨Nat.zero_le _, fun _ _ => rfl, fun _ _ => rfl⟩) ?_
            rintro ⟨i, M1⟩ hI ih
            have hI : (i ≤ 72) ∧ (∀ q, q ≠ 92 → M1 q = M q) ∧ (∀ q, ¬ (6 + 7 * n ≤ q ∧ q < 6 + 7 * n + 7) → M1 92 q = M 92 q) := hI
            obtain ⟨hi, hA, hB⟩ := hI
            show KW pP l eE RR sS mI aG bB mE cD g 8 _ (M1) 67 [(0, .ref (ga g 91)), (1, .int km), (2, .int h), (3, .int (nI w)), (4, .int (nI a)), (5, .int (nI (pEch km h (mF M a) i))), (6, .int (nI i))] []
            have hE := pEch_le km h (mF M a) i
            refine k_iload C 69 6  rfl dX10_odds_67 rfl ?_
            refine k_bipush C 71 (v := 72) (by decide) dX10_odds_69 rfl ?_
            refine k_icmp_ge C 131 74 dX10_odds_71 (by decide) rfl (fun c71 => ?_) (fun d71 => ?_)
            · skip
              have c71 := (nI_leI (by omega) (by omega)).mp (show nI 72 ≤ nI i from c71)
              refine k_bipush C 133 (v := 72) (by decide) dX10_odds_131 rfl ?_
              refine k_istore C 135 [(6, .int 72), (0, .ref (ga g 91)), (1, .int km), (2, .int h), (3, .int (nI w)), (4, .int (nI a)), (5, .int (nI (pEch km h (mF M a) i)))]  (by decide) rfl dX10_odds_133 rfl ?_
              refine k_bipush C 137 (v := 72) (by decide) dX10_odds_135 rfl ?_
              refine k_istore C 139 [(7, .int 72), (6, .int 72), (0, .ref (ga g 91)), (1, .int km), (2, .int h), (3, .int (nI w)), (4, .int (nI a)), (5, .int (nI (pEch km h (mF M a) i)))]  (by decide) rfl dX10_odds_137 rfl ?_
              refine k_sub [(3, .int (nI w)), (5, .int (nI (pEch km h (mF M a) i))), (6, .int 72), (7, .int 72)] [5, 7, 1, 0] rfl ?_
              refine k_all (M' := M1) (lo' := [(3, .int (nI w)), (5, .int (nI (pEch km h (mF M a) 72))), (6, .int (nI 72)), (7, .int (nI (71 + 1)))]) (st' := []) (by rfl) (by rw [show i = 72 by omega]; rfl) rfl ?_
              refine k_loop (σ := Nat × Nat × Nat) (fun (v : Nat × Nat × Nat) => match v with | (j, x, y) => (j ≤ 71) ∧ (x ≤ 72) ∧ (y ≤ 72) ∧ (odR 72 (pEch km h (mF M a) 72) 72 = odR (j + 1) x y)) (fun (v : Nat × Nat × Nat) => match v with | (j, x, y) => j) (fun (v : Nat × Nat × Nat) => match v with | (j, x, y) => M1) (fun (v : Nat × Nat × Nat) => match v with | (j, x, y) => [(3, .int (nI w)), (5, .int (nI x)), (6, .int (nI y)), (7, .int (nI (j + 1)))]) (71, pEch km h (mF M a) 72, 72) (show (71 ≤ 71) ∧ ((pEch km h (mF M a) 72) ≤ 72) ∧ (72 ≤ 72) ∧ (odR 72 (pEch km h (mF M a) 72) 72 = odR (71 + 1) (pEch km h (mF M a) 72) 72) from by exact ⟨Nat.le_refl _, pEch_le _ _ _ _, Nat.le_refl _, rfl⟩) ?_
              rintro ⟨j, x, y⟩ hI ih
              have hI : (j ≤ 71) ∧ (x ≤ 72) ∧ (y ≤ 72) ∧ (odR 72 (pEch km h (mF M a) 72) 72 = odR (j + 1) x y) := hI
              obtain ⟨hj, hx, hy, he⟩ := hI
              show KW pP l eE RR sS mI aG bB mE cD g 8 _ (M1) 139 [(3, .int (nI w)), (5, .int (nI x)), (6, .int (nI y)), (7, .int (nI (j + 1)))] []
              refine k_iload C 141 3  rfl dX10_odds_139 rfl ?_
              refine k_iconst C 142 (v := 1) (by decide) dX10_odds_141 rfl ?_
              refine k_icmp_le C 181 145 dX10_odds_142 (by decide) rfl (fun c142 => ?_) (fun d142 => ?_)
              · skip
                have c142 := (nI_leI (by omega) (by omega)).mp (show nI (j + 1) ≤ nI 1 from c142)
                refine k_iload_n C 182 0 rfl rfl dX10_odds_181 rfl ?_
                refine k_if_ne C 190 185 dX10_odds_182 (by decide) rfl (fun c182 => ?_) (fun d182 => ?_)
                · skip
                  have c182 := mt (nI_eq (by omega) (by omega)).mpr (show ¬ (nI w = nI 0) from c182)
                  refine k_iload C 192 2  rfl dX10_odds_190 rfl ?_
                  refine k_ret C rfl dX10_odds_192 ?_
                  have e : j = 0 := by omega
                  subst e
                  exact ⟨by rw [if_neg c182, he]; rfl, hA, hB⟩
                · skip
                  have d182 := (nI_eq (by omega) (by omega)).mp (show nI w = nI 0 from d182)
                  refine k_iload C 187 1  rfl dX10_odds_185 rfl ?_
                  refine k_goto C 192 dX10_odds_187 (by decide) ?_
                  refine k_ret C rfl dX10_odds_192 ?_
                  have e : j = 0 := by omega
                  subst e
                  exact ⟨by rw [if_pos d182, he]; rfl, hA, hB⟩
              · skip
                have d142 := mt (nI_leI (by omega) (by omega)).mpr (show ¬ (nI (j + 1) ≤ nI 1) from d142)
                refine k_iload C 147 1  rfl dX10_odds_145 rfl ?_
                refine k_iload C 149 3  rfl dX10_odds_147 rfl ?_
                refine k_irem C 150 (nI_ne0 (by omega) (by omega)) dX10_odds_149 rfl ?_
                refine k_teq (y := nI (x % (j + 1))) (pk_rem (a := x) (d := j + 1) (by omega) (by omega) (by omega)) ?_
                have hm1 := Nat.mod_le x (j + 1)
                refine k_if_ne C 175 153 dX10_odds_150 (by decide) rfl (fun c150 => ?_) (fun d150 => ?_)
                · skip
                  have c150 := mt (nI_eq (by omega) (by omega)).mpr (show ¬ (nI (x % (j + 1)) = nI 0) from c150)
                  refine k_iinc C 178 (nI j) 3 [(7, .int (nI j)), (3, .int (nI w)), (5, .int (nI x)), (6, .int (nI y))] rfl (iinc_m1 j) (by decide) rfl dX10_odds_175 rfl ?_
                  refine k_goto C 139 dX10_odds_178 (by decide) ?_
                  refine k_sub [(3, .int (nI w)), (5, .int (nI x)), (6, .int (nI y)), (7, .int (nI j))] [1, 2, 3, 0] rfl ?_
                  refine k_all (M' := M1) (lo' := [(3, .int (nI w)), (5, .int (nI x)), (6, .int (nI y)), (7, .int (nI ((j - 1) + 1)))]) (st' := []) (by rfl) (by rw [show j - 1 + 1 = j by omega]) rfl ?_
                  exact ih (j - 1, x, y) (show ((j - 1) ≤ 71) ∧ (x ≤ 72) ∧ (y ≤ 72) ∧ (odR 72 (pEch km h (mF M a) 72) 72 = odR ((j - 1) + 1) x y) from by exact ⟨by omega, hx, hy, by rw [he, odR_n (by omega) (fun q => c150 q.1), show j - 1 + 1 = j by omega]⟩) (by show (j - 1) < j; omega)
                · skip
                  have d150 := (nI_eq (by omega) (by omega)).mp (show nI (x % (j + 1)) = nI 0 from d150)
                  refine k_iload C 155 2  rfl dX10_odds_153 rfl ?_
                  refine k_iload C 157 3  rfl dX10_odds_155 rfl ?_
                  refine k_irem C 158 (nI_ne0 (by omega) (by omega)) dX10_odds_157 rfl ?_
                  refine k_teq (y := nI (y % (j + 1))) (pk_rem (a := y) (d := j + 1) (by omega) (by omega) (by omega)) ?_
                  have hm2 := Nat.mod_le y (j + 1)
                  refine k_if_ne C 175 161 dX10_odds_158 (by decide) rfl (fun c158 => ?_) (fun d158 => ?_)
                  · skip
                    have c158 := mt (nI_eq (by omega) (by omega)).mpr (show ¬ (nI (y % (j + 1)) = nI 0) from c158)
                    refine k_iinc C 178 (nI j) 3 [(7, .int (nI j)), (3, .int (nI w)), (5, .int (nI x)), (6, .int (nI y))] rfl (iinc_m1 j) (by decide) rfl dX10_odds_175 rfl ?_
                    refine k_goto C 139 dX10_odds_178 (by decide) ?_
                    refine k_sub [(3, .int (nI w)), (5, .int (nI x)), (6, .int (nI y)), (7, .int (nI j))] [1, 2, 3, 0] rfl ?_
                    refine k_all (M' := M1) (lo' := [(3, .int (nI w)), (5, .int (nI x)), (6, .int (nI y)), (7, .int (nI ((j - 1) + 1)))]) (st' := []) (by rfl) (by rw [show j - 1 + 1 = j by omega]) rfl ?_
                    exact ih (j - 1, x, y) (show ((j - 1) ≤ 71) ∧ (x ≤ 72) ∧ (y ≤ 72) ∧ (odR 72 (pEch km h (mF M a) 72) 72 = odR ((j - 1) + 1) x y) from by exact ⟨by omega, hx, hy, by rw [he, odR_n (by omega) (fun q => c158 q.2), show j - 1 + 1 = j by omega]⟩) (by show (j - 1) < j; omega)
                  · skip
                    have d158 := (nI_eq (by omega) (by omega)).mp (show nI (y % (j + 1)) = nI 0 from d158)
                    refine k_iload C 163 1  rfl dX10_odds_161 rfl ?_
                    refine k_iload C 165 3  rfl dX10_odds_163 rfl ?_
                    refine k_idiv C 166 (nI_ne0 (by omega) (by omega)) dX10_odds_165 rfl ?_
                    refine k_teq (y := nI (x / (j + 1))) (pk_div (a := x) (d := j + 1) (by omega) (by omega) (by omega)) ?_
                    refine k_istore C 168 [(5, .int (nI (x / (j + 1)))), (3, .int (nI w)), (6, .int (nI y)), (7, .int (nI (j + 1)))]  (by decide) rfl dX10_odds_166 rfl ?_
                    refine k_iload C 170 2  rfl dX10_odds_168 rfl ?_
                    refine k_iload C 172 3  rfl dX10_odds_170 rfl ?_
                    refine k_idiv C 173 (nI_ne0 (by omega) (by omega)) dX10_odds_172 rfl ?_
                    refine k_teq (y := nI (y / (j + 1))) (pk_div (a := y) (d := j + 1) (by omega) (by omega) (by omega)) ?_
                    refine k_istore C 175 [(6, .int (nI (y / (j + 1)))), (5, .int (nI (x / (j + 1)))), (3, .int (nI w)), (7, .int (nI (j + 1)))]  (by decide) rfl dX10_odds_173 rfl ?_
                    refine k_iinc C 178 (nI j) 3 [(7, .int (nI j)), (6, .int (nI (y / (j + 1)))), (5, .int (nI (x / (j + 1)))), (3, .int (nI w))] rfl (iinc_m1 j) (by decide) rfl dX10_odds_175 rfl ?_
                    refine k_goto C 139 dX10_odds_178 (by decide) ?_
                    refine k_sub [(3, .int (nI w)), (5, .int (nI (x / (j + 1)))), (6, .int (nI (y / (j + 1)))), (7, .int (nI j))] [3, 2, 1, 0] rfl ?_
                    refine k_all (M' := M1) (lo' := [(3, .int (nI w)), (5, .int (nI (x / (j + 1)))), (6, .int (nI (y / (j + 1)))), (7, .int (nI ((j - 1) + 1)))]) (st' := []) (by rfl) (by rw [show j - 1 + 1 = j by omega]) rfl ?_
                    exact ih (j - 1, x / (j + 1), y / (j + 1)) (show ((j - 1) ≤ 71) ∧ ((x / (j + 1)) ≤ 72) ∧ ((y / (j + 1)) ≤ 72) ∧ (odR 72 (pEch km h (mF M a) 72) 72 = odR ((j - 1) + 1) (x / (j + 1)) (y / (j + 1))) from by exact ⟨by omega, Nat.le_trans (Nat.div_le_self _ _) hx, Nat.le_trans (Nat.div_le_self _ _) hy, by rw [he, odR_y (by omega) d150 d158, show j - 1 + 1 = j by omega]⟩) (by show (j - 1) < j; omega)
            · skip
              have d71 := mt (nI_leI (by omega) (by omega)).mpr (show ¬ (nI 72 ≤ nI i) from d71)
              refine k_aload_n C 75 0 rfl rfl dX10_odds_74 rfl ?_
              refine k_iload_n C 76 1 rfl rfl dX10_odds_75 rfl ?_
              refine k_iconst C 77 (v := 1) (by decide) dX10_odds_76 rfl ?_
              refine k_iload C 79 6  rfl dX10_odds_77 rfl ?_
              refine k_bipush C 81 (v := 6) (by decide) dX10_odds_79 rfl ?_
              refine k_idiv C 82 (by decide) dX10_odds_81 rfl ?_
              refine k_teq (pk_div (a := i) (d := 6) (by omega) (by decide) (by decide)) ?_
              refine k_iadd C 83 dX10_odds_82 rfl ?_
              refine k_teq (nI_add 1 (i / 6)) ?_
              refine k_iload C 85 6  rfl dX10_odds_83 rfl ?_
              refine k_bipush C 87 (v := 6) (by decide) dX10_odds_85 rfl ?_
              refine k_irem C 88 (by decide) dX10_odds_87 rfl ?_
              refine k_teq (pk_rem (a := i) (d := 6) (by omega) (by decide) (by decide)) ?_
              refine k_iload_n C 89 2 rfl rfl dX10_odds_88 rfl ?_
              refine k_callVE C 92 (As := [.int km, .int (nI (1 + (i / 6))), .int (nI (i % 6)), .int h]) (st := []) 91 (by decide) (ce_91 g _) rfl rfl mwX10_99 vlX10_comes (qX10_comes l g M1 (n := n) (by rw [hB 2 (by omega)]; exact hn) h12 km (nI (1 + (i / 6))) (nI (i % 6)) h) mlX10_comes (by decide) (by decide) rfl rfl (Nat.le_of_ble_eq_true rfl) dX10_odds_89 rfl ?_
              refine k_istore C 94 [(7, .int (nI n)), (0, .ref (ga g 91)), (1, .int km), (2, .int h), (3, .int (nI w)), (4, .int (nI a)), (5, .int (nI (pEch km h (mF M a) i))), (6, .int (nI i))]  (by decide) rfl dX10_odds_92 rfl ?_
              refine k_iload C 96 6  rfl dX10_odds_94 rfl ?_
              refine k_aload_n C 97 1 rfl rfl dX10_odds_96 rfl ?_
              refine k_iload C 99 0  rfl dX10_odds_97 rfl ?_
              refine k_iload C 101 5  rfl dX10_odds_99 rfl ?_
              refine k_callVE C 104 (As := [.int (nI n), .int (nI a)]) (st := [.int (nI (pEch km h (mF M a) i))]) 91 (by decide) (ce_91 g _) rfl rfl mwX10_70 vlX10_doesAnswer (qX10_doesAnswer l g (pCome M1 n km (nI (1 + (i / 6))) (nI (i % 6)) h) (a := n) (b := a) (by omega) (by omega)) mlX10_doesAnswer (by decide) (by decide) rfl rfl (Nat.le_of_ble_eq_true rfl) dX10_odds_101 rfl ?_
              refine k_teq (y := b2i (pAns (cnd (km / 10) (km - km / 10 * 10) (nI (1 + i / 6)) (nI (i % 6)) h) (mF M a))) (congrArg b2i (pCome_ans hB _ _ _ _ han)) ?_
              refine k_if_eqB C 111 107 dX10_odds_104 (by decide) rfl (fun c104 => ?_) (fun d104 => ?_)
              · skip
                refine k_iconst C 112 (v := 0) (by decide) dX10_odds_111 rfl ?_
                refine k_iadd C 113 dX10_odds_112 rfl ?_
                refine k_teq (nI_add (pEch km h (mF M a) i) 0) ?_
                refine k_istore C 115 [(5, .int (nI ((pEch km h (mF M a) i) + 0))), (7, .int (nI n)), (0, .ref (ga g 91)), (1, .int km), (2, .int h), (3, .int (nI w)), (4, .int (nI a)), (6, .int (nI i))]  (by decide) rfl dX10_odds_113 rfl ?_
                refine k_aload_n C 116 2 rfl rfl dX10_odds_115 rfl ?_
                refine k_get C 119 flX10_9 91 (by decide) (v := .ref (ga g 92)) (ce_91 g _) rfl dX10_odds_116 rfl ?_
                refine k_iconst C 120 (v := 2) (by decide) dX10_odds_119 rfl ?_
                refine k_dup2 C 121 rfl rfl dX10_odds_120 rfl ?_
                refine k_iald C 122 92 2 (by decide) (ce_92 g) (by decide) rfl (by omega) dX10_odds_121 rfl ?_
                refine k_teq (y := nI (n + 1)) (pCome_2 _ _ _ _ _ _) ?_
                refine k_iconst C 123 (v := 1) (by decide) dX10_odds_122 rfl ?_
                refine k_isub C 124 dX10_odds_123 rfl ?_
                refine k_teq (y := nI n) (nI_pred n) ?_
                refine k_iast C 125 92 2 (by decide) (ce_92 g) (by decide) rfl (by omega) dX10_odds_124 rfl ?_
                refine k_iinc C 128 (nI (i + 1)) 7 [(6, .int (nI (i + 1))), (5, .int (nI ((pEch km h (mF M a) i) + 0))), (7, .int (nI n)), (0, .ref (ga g 91)), (1, .int km), (2, .int h), (3, .int (nI w)), (4, .int (nI a))] rfl (iinc_p i) (by decide) rfl dX10_odds_125 rfl ?_
                refine k_goto C 67 dX10_odds_128 (by decide) ?_
                refine k_sub [(0, .ref (ga g 91)), (1, .int km), (2, .int h), (3, .int (nI w)), (4, .int (nI a)), (5, .int (nI ((pEch km h (mF M a) i) + 0))), (6, .int (nI (i + 1)))] [3, 4, 5, 6, 7, 1, 0] rfl ?_
                refine k_all (M' := (mu (pCome M1 n km (nI (1 + (i / 6))) (nI (i % 6)) h) 92 2 (nI n))) (lo' := [(0, .ref (ga g 91)), (1, .int km), (2, .int h), (3, .int (nI w)), (4, .int (nI a)), (5, .int (nI (pEch km h (mF M a) (i + 1)))), (6, .int (nI (i + 1)))]) (st' := []) (by rfl) (by simp only [pEch]; rw [c104]; rfl) rfl ?_
                exact ih (i + 1, mu (pCome M1 n km (nI (1 + (i / 6))) (nI (i % 6)) h) 92 2 (nI n)) (show ((i + 1) ≤ 72) ∧ (∀ q, q ≠ 92 → (mu (pCome M1 n km (nI (1 + (i / 6))) (nI (i % 6)) h) 92 2 (nI n)) q = M q) ∧ (∀ q, ¬ (6 + 7 * n ≤ q ∧ q < 6 + 7 * n + 7) → (mu (pCome M1 n km (nI (1 + (i / 6))) (nI (i % 6)) h) 92 2 (nI n)) 92 q = M 92 q) from by exact ⟨by omega, fun q hq => by rw [mu_n _ _ _ hq, pCome_n _ _ _ _ _ _ hq]; exact hA q hq, fun q hq => by
                  by_cases e : q = 2
                  · subst e; rw [mu_s]; exact hn.symm
                  · rw [mu_o _ _ _ e, pCome_o _ _ _ _ _ _ e hq]; exact hB q hq⟩) (by show 72 - (i + 1) < 72 - i; omega)
              · skip
                refine k_iconst C 108 (v := 1) (by decide) dX10_odds_107 rfl ?_
                refine k_goto C 112 dX10_odds_108 (by decide) ?_
                refine k_iadd C 113 dX10_odds_112 rfl ?_
                refine k_teq (nI_add (pEch km h (mF M a) i) 1) ?_
                refine k_istore C 115 [(5, .int (nI ((pEch km h (mF M a) i) + 1))), (7, .int (nI n)), (0, .ref (ga g 91)), (1, .int km), (2, .int h), (3, .int (nI w)), (4, .int (nI a)), (6, .int (nI i))]  (by decide) rfl dX10_odds_113 rfl ?_
                refine k_aload_n C 116 2 rfl rfl dX10_odds_115 rfl ?_
                refine k_get C 119 flX10_9 91 (by decide) (v := .ref (ga g 92)) (ce_91 g _) rfl dX10_odds_116 rfl ?_
                refine k_iconst C 120 (v := 2) (by decide) dX10_odds_119 rfl ?_
                refine k_dup2 C 121 rfl rfl dX10_odds_120 rfl ?_
                refine k_iald C 122 92 2 (by decide) (ce_92 g) (by decide) rfl (by omega) dX10_odds_121 rfl ?_
                refine k_teq (y := nI (n + 1)) (pCome_2 _ _ _ _ _ _) ?_
                refine k_iconst C 123 (v := 1) (by decide) dX10_odds_122 rfl ?_
                refine k_isub C 124 dX10_odds_123 rfl ?_
                refine k_teq (y := nI n) (nI_pred n) ?_
                refine k_iast C 125 92 2 (by decide) (ce_92 g) (by decide) rfl (by omega) dX10_odds_124 rfl ?_
                refine k_iinc C 128 (nI (i + 1)) 7 [(6, .int (nI (i + 1))), (5, .int (nI ((pEch km h (mF M a) i) + 1))), (7, .int (nI n)), (0, .ref (ga g 91)), (1, .int km), (2, .int h), (3, .int (nI w)), (4, .int (nI a))] rfl (iinc_p i) (by decide) rfl dX10_odds_125 rfl ?_
                refine k_goto C 67 dX10_odds_128 (by decide) ?_
                refine k_sub [(0, .ref (ga g 91)), (1, .int km), (2, .int h), (3, .int (nI w)), (4, .int (nI a)), (5, .int (nI ((pEch km h (mF M a) i) + 1))), (6, .int (nI (i + 1)))] [3, 4, 5, 6, 7, 1, 0] rfl ?_
                refine k_all (M' := (mu (pCome M1 n km (nI (1 + (i / 6))) (nI (i % 6)) h) 92 2 (nI n))) (lo' := [(0, .ref (ga g 91)), (1, .int km), (2, .int h), (3, .int (nI w)), (4, .int (nI a)), (5, .int (nI (pEch km h (mF M a) (i + 1)))), (6, .int (nI (i + 1)))]) (st' := []) (by rfl) (by simp only [pEch]; rw [d104]; rfl) rfl ?_
                exact ih (i + 1, mu (pCome M1 n km (nI (1 + (i / 6))) (nI (i % 6)) h) 92 2 (nI n)) (show ((i + 1) ≤ 72) ∧ (∀ q, q ≠ 92 → (mu (pCome M1 n km (nI (1 + (i / 6))) (nI (i % 6)) h) 92 2 (nI n)) q = M q) ∧ (∀ q, ¬ (6 + 7 * n ≤ q ∧ q < 6 + 7 * n + 7) → (mu (pCome M1 n km (nI (1 + (i / 6))) (nI (i % 6)) h) 92 2 (nI n)) 92 q = M 92 q) from by exact ⟨by omega, fun q hq => by rw [mu_n _ _ _ hq, pCome_n _ _ _ _ _ _ hq]; exact hA q hq, fun q hq => by
                  by_cases e : q = 2
                  · subst e; rw [mu_s]; exact hn.symm
                  · rw [mu_o _ _ _ e, pCome_o _ _ _ _ _ _ e hq]; exact hB q hq⟩) (by show 72 - (i + 1) < 72 - i; omega)
          · skip
            have d51 := (nI_eq (by omega) (by omega)).mp (show nI n = nI 12 from d51)
            exact absurd d51 (by omega)
      · skip
        exact (bz d22 (rg_le (a := 0) (b := 1) (Nat.zero_le _) (by omega) (by decide))).elim
