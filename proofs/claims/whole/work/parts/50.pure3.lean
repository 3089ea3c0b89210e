-- pure: reply: the cheapest way over the lines is the two ways' sum
/-- what a step over d places costs -/
def sLof (n : Nat) (p : Nat → Int32) (pat : Int32) (d : Nat) : Nat := (pGive 0 n p (nI d) 0 pat).toNatClampNeg
def sCof (n : Nat) (p : Nat → Int32) (pat : Int32) (d : Nat) : Nat := (pGive 0 n p 0 (nI d) pat).toNatClampNeg
theorem hold99 (v : Int32) : ∃ k, 1 ≤ k ∧ k ≤ 99 ∧ pHold v 1 99 = nI k := by
  unfold pHold
  by_cases h1 : v < 1
  · rw [if_pos h1]; exact ⟨1, by decide, by decide, rfl⟩
  · rw [if_neg h1]
    by_cases h2 : 99 < v
    · rw [if_pos h2]; exact ⟨99, by decide, by decide, rfl⟩
    · rw [if_neg h2]
      obtain ⟨k, hk, rfl⟩ := nI_of (x := v) (fun q => h1 (Int32.lt_of_lt_of_le q (by decide)))
      have a := mt (nI_ltI (a := k) (b := 1) hk (by decide)).mpr h1
      have b := mt (nI_ltI (a := 99) (b := k) (by decide) hk).mpr h2
      exact ⟨k, by omega, by omega, rfl⟩
theorem give99 (n : Nat) (p : Nat → Int32) (a b c : Int32) : ∃ k, 1 ≤ k ∧ k ≤ 99 ∧ pGive 0 n p a b c = nI k := by
  unfold pGive; rw [if_pos rfl]; exact hold99 _
theorem nI_clamp2 {k : Nat} (h : k < 2 ^ 31) : (nI k).toNatClampNeg = k := nI_clamp h
theorem sL_at (n : Nat) (p : Nat → Int32) (pat : Int32) (d : Nat) : pGive 0 n p (nI d) 0 pat = nI (sLof n p pat d) ∧ 1 ≤ sLof n p pat d ∧ sLof n p pat d ≤ 99 := by
  obtain ⟨k, h1, h2, e⟩ := give99 n p (nI d) 0 pat
  have : sLof n p pat d = k := by unfold sLof; rw [e]; exact nI_clamp2 (by omega)
  rw [this]; exact ⟨e, h1, h2⟩
theorem sC_at (n : Nat) (p : Nat → Int32) (pat : Int32) (d : Nat) : pGive 0 n p 0 (nI d) pat = nI (sCof n p pat d) ∧ 1 ≤ sCof n p pat d ∧ sCof n p pat d ≤ 99 := by
  obtain ⟨k, h1, h2, e⟩ := give99 n p 0 (nI d) pat
  have : sCof n p pat d = k := by unfold sCof; rw [e]; exact nI_clamp2 (by omega)
  rw [this]; exact ⟨e, h1, h2⟩
/-- the steps over the lines -/
def stS (sL sC : Nat → Nat) (a b : Nat) : Nat := if a / 6 = b / 6 then (if a % 6 = b % 6 then 0 else sC (ab (a % 6) (b % 6))) else (if a % 6 = b % 6 then sL (ab (a / 6) (b / 6)) else 0)
theorem stS_ok (n : Nat) (p : Nat → Int32) (pat : Int32) : stOk n p pat (stS (sLof n p pat) (sCof n p pat)) := by
  intro a b _ _
  unfold pSt stS
  by_cases h1 : a / 6 = b / 6 <;> by_cases h2 : a % 6 = b % 6
  · rw [if_pos h1, if_pos h2, if_pos (by rw [decide_eq_true h1, decide_eq_true h2]), if_pos rfl]; exact ⟨rfl, by decide⟩
  · rw [if_pos h1, if_neg h2, if_neg (by rw [decide_eq_true h1, decide_eq_false h2]; decide)]
    have e := sC_at n p pat (ab (a % 6) (b % 6))
    rw [if_neg (by omega), show ab (a / 6) (b / 6) = 0 by unfold ab; omega]
    exact ⟨e.1, e.2.2⟩
  · rw [if_neg h1, if_pos h2, if_neg (by rw [decide_eq_false h1, decide_eq_true h2]; decide)]
    have e := sL_at n p pat (ab (a / 6) (b / 6))
    rw [if_neg (by omega), show ab (a % 6) (b % 6) = 0 by unfold ab; omega]
    exact ⟨e.1, e.2.2⟩
  · rw [if_neg h1, if_neg h2, if_pos (by rw [decide_eq_false h1, decide_eq_false h2]), if_pos rfl]; exact ⟨rfl, by decide⟩
theorem ab_inn {i j n : Nat} (hi : i < n) (hj : j < n) (h : i ≠ j) : 1 ≤ ab i j ∧ ab i j < n := by unfold ab; omega
theorem stS_L {sL sC : Nat → Nat} {L j C : Nat} (hC : C < 6) (h : L ≠ j) : stS sL sC (6 * L + C) (6 * j + C) = sL (ab L j) := by
  unfold stS
  rw [if_neg (by omega), if_pos (by omega), show (6 * L + C) / 6 = L by omega, show (6 * j + C) / 6 = j by omega]
theorem stS_C {sL sC : Nat → Nat} {L j C : Nat} (hC : C < 6) (hj : j < 6) (h : C ≠ j) : stS sL sC (6 * L + C) (6 * L + j) = sC (ab C j) := by
  unfold stS
  rw [if_pos (by omega), if_neg (by omega), show (6 * L + C) % 6 = C by omega, show (6 * L + j) % 6 = j by omega]
section
variable {sL sC cL cC c : Nat → Nat} {TL TC : Nat}
theorem sum_dok (hTL : TL < 12) (hTC : TC < 6) (hL : isD 12 sL TL cL) (hC : isD 6 sC TC cC) : Dok (stS sL sC) (6 * TL + TC) (fun i => cL (i / 6) + cC (i % 6)) := by
  refine ⟨?_, fun i hi => ?_, fun a b ha hb hs => ?_⟩
  · show cL ((6 * TL + TC) / 6) + cC ((6 * TL + TC) % 6) = 0
    rw [show (6 * TL + TC) / 6 = TL by omega, show (6 * TL + TC) % 6 = TC by omega, hL.1, hC.1]
  · have h1 := hL.2.2.2 (i / 6) (by omega)
    have h2 := hC.2.2.2 (i % 6) (by omega)
    show cL (i / 6) + cC (i % 6) ≤ 9999
    omega
  · show cL (a / 6) + cC (a % 6) ≤ cL (b / 6) + cC (b % 6) + stS sL sC a b
    unfold stS at hs ⊢
    by_cases h1 : a / 6 = b / 6 <;> by_cases h2 : a % 6 = b % 6
    · rw [if_pos h1, if_pos h2] at hs; exact absurd rfl hs
    · rw [if_pos h1, if_neg h2, h1]
      have := hC.2.1 (a % 6) (b % 6) (by omega) (by omega) h2
      omega
    · rw [if_neg h1, if_pos h2, h2]
      have := hL.2.1 (a / 6) (b / 6) (by omega) (by omega) h1
      omega
    · rw [if_neg h1, if_neg h2] at hs; exact absurd rfl hs
theorem way_L (hoL : sOk 12 sL) (hL : isD 12 sL TL cL) (hE : fcE (stS sL sC) c) (hTL : TL < 12) {C : Nat} (hCb : C < 6) : ∀ k L, L < 12 → cL L = k → c (6 * L + C) ≤ k + c (6 * TL + C) := by
  intro k
  induction k using Nat.strongRecOn with
  | ind k ih =>
    intro L hLb hk
    by_cases e : L = TL
    · subst e; omega
    · obtain ⟨j, j1, j2, j3⟩ := hL.2.2.1 L hLb e
      have hab := ab_inn hLb j1 (fun q => j2 q.symm)
      have h1 := hoL (ab L j) hab.1 hab.2
      have h2 := ih (cL j) (by omega) j j1 rfl
      have h3 := hE (6 * L + C) (6 * j + C) (by omega) (by omega) (by rw [stS_L hCb (fun q => j2 q.symm)]; omega)
      rw [stS_L hCb (fun q => j2 q.symm)] at h3
      omega
theorem way_C (hoC : sOk 6 sC) (hC : isD 6 sC TC cC) (hE : fcE (stS sL sC) c) (hTC : TC < 6) {L : Nat} (hLb : L < 12) : ∀ k C, C < 6 → cC C = k → c (6 * L + C) ≤ k + c (6 * L + TC) := by
  intro k
  induction k using Nat.strongRecOn with
  | ind k ih =>
    intro C hCb hk
    by_cases e : C = TC
    · subst e; omega
    · obtain ⟨j, j1, j2, j3⟩ := hC.2.2.1 C hCb e
      have hab := ab_inn hCb j1 (fun q => j2 q.symm)
      have h1 := hoC (ab C j) hab.1 hab.2
      have h2 := ih (cC j) (by omega) j j1 rfl
      have h3 := hE (6 * L + C) (6 * L + j) (by omega) (by omega) (by rw [stS_C hCb j1 (fun q => j2 q.symm)]; omega)
      rw [stS_C hCb j1 (fun q => j2 q.symm)] at h3
      omega
theorem way_sum (hTL : TL < 12) (hTC : TC < 6) (hoL : sOk 12 sL) (hoC : sOk 6 sC) (hL : isD 12 sL TL cL) (hC : isD 6 sC TC cC) (hE : fcE (stS sL sC) c) (h0 : c (6 * TL + TC) = 0) (hD : ∀ D, Dok (stS sL sC) (6 * TL + TC) D → ∀ i, i < 72 → D i ≤ c i) {L C : Nat} (hLb : L < 12) (hCb : C < 6) : c (6 * L + C) = cL L + cC C := by
  have h1 := hD _ (sum_dok hTL hTC hL hC) (6 * L + C) (by omega)
  have h1' : cL ((6 * L + C) / 6) + cC ((6 * L + C) % 6) ≤ c (6 * L + C) := h1
  rw [show (6 * L + C) / 6 = L by omega, show (6 * L + C) % 6 = C by omega] at h1'
  have h2 := way_L hoL hL hE hTL hCb (cL L) L hLb rfl
  have h3 := way_C hoC hC hE hTC hTL (cC C) C hCb rfl
  omega
end
theorem pFst_is {s c : Nat → Nat} {fr : Nat} : ∀ k i b, pFst s c fr k i = some b → (b ≠ fr ∧ c b + s (ab b fr) = c fr) ∧ ∀ j, i ≤ j → j < b → ¬ (j ≠ fr ∧ c j + s (ab j fr) = c fr)
  | 0, _, _, h => by simp [pFst] at h
  | k + 1, i, b, h => by
    simp only [pFst] at h
    split at h
    · rename_i hc
      have e := Option.some.inj h; subst e
      exact ⟨hc, fun j h1 h2 => absurd h2 (by omega)⟩
    · rename_i hc
      have ih := pFst_is k (i + 1) b h
      refine ⟨ih.1, fun j h1 h2 => ?_⟩
      by_cases e : j = i
      · subst e; exact hc
      · exact ih.2 j (by omega) h2
theorem pFst_no {s c : Nat → Nat} {fr : Nat} : ∀ k i, pFst s c fr k i = none → ∀ j, i ≤ j → j < i + k → ¬ (j ≠ fr ∧ c j + s (ab j fr) = c fr)
  | 0, _, _, j, h1, h2 => absurd h2 (by omega)
  | k + 1, i, h, j, h1, h2 => by
    simp only [pFst] at h
    split at h
    · cases h
    · rename_i hc
      by_cases e : j = i
      · subst e; exact hc
      · exact pFst_no k (i + 1) h j (by omega) (by omega)
theorem pFit_at {P : Nat → Bool} {b : Nat} (hb : P b = true) : ∀ k i, i ≤ b → b < i + k → (∀ j, i ≤ j → j < b → P j = false) → pFit P k i = some b
  | 0, i, h1, h2, _ => absurd h2 (by omega)
  | k + 1, i, h1, h2, h => by
    simp only [pFit]
    by_cases e : i = b
    · subst e; rw [if_pos hb]
    · rw [if_neg (by rw [h i (Nat.le_refl _) (by omega)]; decide)]
      exact pFit_at hb k (i + 1) (by omega) (by omega) (fun j a1 a2 => h j (by omega) a2)
theorem pFit_no {P : Nat → Bool} : ∀ k i, (∀ j, i ≤ j → j < i + k → P j = false) → pFit P k i = none
  | 0, _, _ => rfl
  | k + 1, i, h => by
    simp only [pFit]
    rw [if_neg (by rw [h i (Nat.le_refl _) (by omega)]; decide)]
    exact pFit_no k (i + 1) (fun j a1 a2 => h j (by omega) (by omega))
theorem ab_sym (i j : Nat) : ab i j = ab j i := by unfold ab; omega
theorem reply_eq {sL sC cL cC c : Nat → Nat} (hoL : sOk 12 sL) (hoC : sOk 6 sC) {L CR : Nat} (hLb : L < 12) (hCb : CR < 6) (hc : ∀ l r, l < 12 → r < 6 → c (6 * l + r) = cL l + cC r) : pRp (stS sL sC) c (6 * L + CR) = pFR (pFst sL cL L 12 0) (pFst sC cC CR 6 0) L CR := by
  have hb : ∀ b, b < 72 → (decide (stS sL sC (6 * L + CR) b ≠ 0 ∧ c b + stS sL sC (6 * L + CR) b = c (6 * L + CR)) = true ↔ (b % 6 = CR ∧ (b / 6 ≠ L ∧ cL (b / 6) + sL (ab (b / 6) L) = cL L)) ∨ (b / 6 = L ∧ (b % 6 ≠ CR ∧ cC (b % 6) + sC (ab (b % 6) CR) = cC CR))) := by
    intro b hb
    rw [decide_eq_true_iff]
    have e1 := hc L CR hLb hCb
    have e2 := hc (b / 6) (b % 6) (by omega) (by omega)
    rw [show 6 * (b / 6) + b % 6 = b by omega] at e2
    unfold stS
    rw [show (6 * L + CR) / 6 = L by omega, show (6 * L + CR) % 6 = CR by omega, e1, e2]
    by_cases h1 : L = b / 6 <;> by_cases h2 : CR = b % 6
    · rw [if_pos h1, if_pos h2]; omega
    · rw [if_pos h1, if_neg h2, ← h1, ab_sym CR]
      have := hoC (ab (b % 6) CR) (ab_inn (by omega) hCb (fun q => h2 q.symm)).1 (ab_inn (by omega) hCb (fun q => h2 q.symm)).2
      omega
    · rw [if_neg h1, if_pos h2, ← h2, ab_sym L]
      have := hoL (ab (b / 6) L) (ab_inn (by omega) hLb (fun q => h1 q.symm)).1 (ab_inn (by omega) hLb (fun q => h1 q.symm)).2
      omega
    · rw [if_neg h1, if_neg h2]; omega
  have e0 := hc L CR hLb hCb
  have no : ∀ b, b < 72 → ¬ ((b % 6 = CR ∧ (b / 6 ≠ L ∧ cL (b / 6) + sL (ab (b / 6) L) = cL L)) ∨ (b / 6 = L ∧ (b % 6 ≠ CR ∧ cC (b % 6) + sC (ab (b % 6) CR) = cC CR))) → decide (stS sL sC (6 * L + CR) b ≠ 0 ∧ c b + stS sL sC (6 * L + CR) b = c (6 * L + CR)) = false := by
    intro b h1 h2
    rw [decide_eq_false_iff_not]
    exact fun q => h2 ((hb b h1).mp (decide_eq_true q))
  cases hx : pFst sL cL L 12 0 with
  | none =>
    have nx := pFst_no 12 0 hx
    cases hy : pFst sC cC CR 6 0 with
    | none =>
      have ny := pFst_no 6 0 hy
      exact pRp_n (pFit_no 72 0 (fun j _ hj => no j (by omega) (by
        rintro (⟨a1, a2⟩ | ⟨a1, a2⟩)
        · exact nx (j / 6) (Nat.zero_le _) (by omega) a2
        · exact ny (j % 6) (Nat.zero_le _) (by omega) a2)))
    | some j1 =>
      have hj := pFst_is 6 0 j1 hy
      have hjl := (pFst_lt 6 0 j1 hy).2
      have q : pFit (fun b => decide (stS sL sC (6 * L + CR) b ≠ 0 ∧ c b + stS sL sC (6 * L + CR) b = c (6 * L + CR))) 72 0 = some (6 * L + j1) := pFit_at ((hb _ (by omega)).mpr (Or.inr ⟨by omega, by rw [show (6 * L + j1) % 6 = j1 by omega]; exact hj.1⟩)) 72 0 (Nat.zero_le _) (by omega) (fun j _ h2 => no j (by omega) (by
        rintro (⟨a1, a2⟩ | ⟨a1, a2⟩)
        · exact nx (j / 6) (Nat.zero_le _) (by omega) a2
        · exact hj.2 (j % 6) (Nat.zero_le _) (by omega) a2))
      have hs := hoC (ab j1 CR) (ab_inn hjl hCb hj.1.1).1 (ab_inn hjl hCb hj.1.1).2
      rw [pRp_s (by have := hj.1.2; omega) q]
      show nI (10 * (1 + (6 * L + j1) / 6) + (6 * L + j1) % 6) = nI (10 * (L + 1) + j1)
      congr 1; omega
  | some i1 =>
    have hi := pFst_is 12 0 i1 hx
    have hil := (pFst_lt 12 0 i1 hx).2
    have hs := hoL (ab i1 L) (ab_inn (by omega) hLb hi.1.1).1 (ab_inn (by omega) hLb hi.1.1).2
    have h0 : c (6 * L + CR) ≠ 0 := by have := hi.1.2; omega
    cases hy : pFst sC cC CR 6 0 with
    | none =>
      have ny := pFst_no 6 0 hy
      have q : pFit (fun b => decide (stS sL sC (6 * L + CR) b ≠ 0 ∧ c b + stS sL sC (6 * L + CR) b = c (6 * L + CR))) 72 0 = some (6 * i1 + CR) := pFit_at ((hb _ (by omega)).mpr (Or.inl ⟨by omega, by rw [show (6 * i1 + CR) / 6 = i1 by omega]; exact hi.1⟩)) 72 0 (Nat.zero_le _) (by omega) (fun j _ h2 => no j (by omega) (by
        rintro (⟨a1, a2⟩ | ⟨a1, a2⟩)
        · exact hi.2 (j / 6) (Nat.zero_le _) (by omega) a2
        · exact ny (j % 6) (Nat.zero_le _) (by omega) a2))
      rw [pRp_s h0 q]
      show nI (10 * (1 + (6 * i1 + CR) / 6) + (6 * i1 + CR) % 6) = nI (10 * (i1 + 1) + CR)
      congr 1; omega
    | some j1 =>
      have hj := pFst_is 6 0 j1 hy
      have hjl := (pFst_lt 6 0 j1 hy).2
      by_cases hlt : i1 < L
      · have q : pFit (fun b => decide (stS sL sC (6 * L + CR) b ≠ 0 ∧ c b + stS sL sC (6 * L + CR) b = c (6 * L + CR))) 72 0 = some (6 * i1 + CR) := pFit_at ((hb _ (by omega)).mpr (Or.inl ⟨by omega, by rw [show (6 * i1 + CR) / 6 = i1 by omega]; exact hi.1⟩)) 72 0 (Nat.zero_le _) (by omega) (fun j _ h2 => no j (by omega) (by
          rintro (⟨a1, a2⟩ | ⟨a1, a2⟩)
          · exact hi.2 (j / 6) (Nat.zero_le _) (by omega) a2
          · omega))
        rw [pRp_s h0 q]
        show nI (10 * (1 + (6 * i1 + CR) / 6) + (6 * i1 + CR) % 6) = nI (min (10 * (i1 + 1) + CR) (10 * (L + 1) + j1))
        congr 1; omega
      · have hne := hi.1.1
        have q : pFit (fun b => decide (stS sL sC (6 * L + CR) b ≠ 0 ∧ c b + stS sL sC (6 * L + CR) b = c (6 * L + CR))) 72 0 = some (6 * L + j1) := pFit_at ((hb _ (by omega)).mpr (Or.inr ⟨by omega, by rw [show (6 * L + j1) % 6 = j1 by omega]; exact hj.1⟩)) 72 0 (Nat.zero_le _) (by omega) (fun j _ h2 => no j (by omega) (by
          rintro (⟨a1, a2⟩ | ⟨a1, a2⟩)
          · have := hi.2 (j / 6) (Nat.zero_le _)
            by_cases z : j / 6 < i1
            · exact this z a2
            · omega
          · exact hj.2 (j % 6) (Nat.zero_le _) (by omega) a2))
        rw [pRp_s h0 q]
        show nI (10 * (1 + (6 * L + j1) / 6) + (6 * L + j1) % 6) = nI (min (10 * (i1 + 1) + CR) (10 * (L + 1) + j1))
        congr 1; omega
