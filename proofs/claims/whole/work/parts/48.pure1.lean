-- pure: the two readers read alike; what is read can be worked out; odds; bytes
def jkC (x : Int32) : Prop := isDg x = false ∧ pLvl x = -1 ∧ ¬ x = 33 ∧ ¬ x = 40 ∧ ¬ x = 41 ∧ ∀ u, u < 2 → pName u x = none
def jkE (sg sg' : Nat → Int32) : Prop := ∀ p, sg p = sg' p ∨ (jkC (sg p) ∧ jkC (sg' p))
theorem pNum_jk {sg sg' : Nat → Int32} (h : jkE sg sg') (k : Nat) : ∀ p v, pNum sg k p v = pNum sg' k p v := by
  induction k with
  | zero => intro p v; rfl
  | succ k ih =>
    intro p v
    simp only [pNum]
    rcases h p with e | ⟨a, b⟩
    · rw [e]
      split
      · exact ih _ _
      · rfl
    · rw [a.1, b.1, if_neg (by decide), if_neg (by decide)]
theorem pLoopJ_jk {sg sg' : Nat → Int32} (h : jkE sg sg') (op : PS → PR) {lv : Int32} (hl : ¬ lv = -1) : ∀ k s, pLoopJ sg op lv k s = pLoopJ sg' op lv k s
  | 0, _ => rfl
  | k + 1, s => by
    simp only [pLoopJ]
    rcases h s.1 with e | ⟨a, b⟩
    · rw [e]
      split
      · split
        · exact pLoopJ_jk h op hl k _
        · rfl
      · rfl
    · rw [a.2.1, b.2.1, if_neg (fun q => hl q.symm), if_neg (fun q => hl q.symm)]
theorem nI_m1 {k : Nat} (hk : k ≤ 5) : ¬ nI k = -1 := by
  rcases (show k = 0 ∨ k = 1 ∨ k = 2 ∨ k = 3 ∨ k = 4 ∨ k = 5 by omega) with rfl | rfl | rfl | rfl | rfl | rfl <;> decide
theorem pJd_jk {sg sg' : Nat → Int32} (h : jkE sg sg') {sng sng' : PS → PR} (hs : ∀ s, sng s = sng' s) : ∀ j s, pJd sg sng j s = pJd sg' sng' j s
  | 0, s => hs s
  | j + 1, s => by
    have ih : pJd sg sng j = pJd sg' sng' j := funext (pJd_jk h hs j)
    simp only [pJd]
    rw [ih, pLoopJ_jk h _ (nI_m1 (by omega))]
theorem pDig_jk {sg sg' : Nat → Int32} (h : jkE sg sg') (s : PS) : pDig sg s = pDig sg' s := by unfold pDig; rw [pNum_jk h]
theorem at41_jk {sg sg' : Nat → Int32} (h : jkE sg sg') (q : Nat) : (sg q = 41) = (sg' q = 41) := by
  rcases h q with e | ⟨a, b⟩
  · rw [e]
  · exact propext ⟨fun z => absurd z a.2.2.2.2.1, fun z => absurd z b.2.2.2.2.1⟩
theorem pSg_jk {sg sg' : Nat → Int32} (h : jkE sg sg') {u : Nat} (hu : u < 2) : ∀ od s, pSg sg u od s = pSg sg' u od s
  | 0, s => by
    simp only [pSg]
    rcases h s.1 with e | ⟨a, b⟩
    · rw [e, pDig_jk h]
    · rw [a.1, b.1, a.2.2.2.2.2 u hu, b.2.2.2.2.2 u hu]; simp [a.2.2.1, b.2.2.1, a.2.2.2.1, b.2.2.2.1]
  | od + 1, s => by
    have ih : pSg sg u od = pSg sg' u od := funext (pSg_jk h hu od)
    have ij : pJd sg (pSg sg u od) 5 = pJd sg' (pSg sg' u od) 5 := funext (pJd_jk h (fun s => congrFun ih s) 5)
    simp only [pSg]
    rcases h s.1 with e | ⟨a, b⟩
    · rw [e, pDig_jk h, ij, ih]; simp only [at41_jk h]
    · rw [a.1, b.1, a.2.2.2.2.2 u hu, b.2.2.2.2.2 u hu]; simp [a.2.2.1, b.2.2.1, a.2.2.2.1, b.2.2.2.1]
theorem pParse_jk {sg sg' : Nat → Int32} (h : jkE sg sg') {u : Nat} (hu : u < 2) (f : Nat → Int32) : pParse sg u f = pParse sg' u f :=
  pJd_jk h (pSg_jk h hu 5) 5 _
theorem jkC_of {x : Int32} (h : x < 33 ∨ 125 ≤ x) : jkC x := by
  have hne : ∀ k : Nat, 33 ≤ k → k < 125 → ¬ x = nI k := by
    rintro k h1 h2 rfl
    rcases h with h | h
    · exact absurd ((nI_ltI (a := k) (b := 33) (by omega) (by decide)).mp h) (by omega)
    · exact absurd ((nI_leI (a := 125) (b := k) (by decide) (by omega)).mp h) (by omega)
  have hd : isDg x = false := by
    cases e : isDg x with
    | false => rfl
    | true =>
      obtain ⟨d, hd, rfl⟩ := dg_in e
      exact absurd rfl (hne (48 + d) (by omega) (by omega))
  have z : ∀ k : Nat, 33 ≤ k → k < 125 → ∀ y : Int32, y = nI k → ¬ x = y := fun k h1 h2 y e => by rw [e]; exact hne k h1 h2
  refine ⟨hd, ?_, z 33 (by decide) (by decide) 33 rfl, z 40 (by decide) (by decide) 40 rfl, z 41 (by decide) (by decide) 41 rfl, fun u hu => ?_⟩
  · unfold pLvl
    rw [if_neg (z 124 (by decide) (by decide) 124 rfl), if_neg (z 38 (by decide) (by decide) 38 rfl), if_neg (by
      rintro (e | e | e)
      · exact z 60 (by decide) (by decide) 60 rfl e
      · exact z 61 (by decide) (by decide) 61 rfl e
      · exact z 62 (by decide) (by decide) 62 rfl e), if_neg (by
      rintro (e | e)
      · exact z 43 (by decide) (by decide) 43 rfl e
      · exact z 45 (by decide) (by decide) 45 rfl e), if_neg (by
      rintro (e | e | e)
      · exact z 42 (by decide) (by decide) 42 rfl e
      · exact z 47 (by decide) (by decide) 47 rfl e
      · exact z 37 (by decide) (by decide) 37 rfl e)]
  · have n : ∀ i : Nat, i < 3 → ¬ nmc u i = x := by
      intro i hi e
      rcases (show u = 0 ∨ u = 1 by omega) with rfl | rfl <;> rcases (show i = 0 ∨ i = 1 ∨ i = 2 by omega) with rfl | rfl | rfl
      · exact z 97 (by decide) (by decide) 97 rfl e.symm
      · exact z 98 (by decide) (by decide) 98 rfl e.symm
      · exact z 107 (by decide) (by decide) 107 rfl e.symm
      · exact z 108 (by decide) (by decide) 108 rfl e.symm
      · exact z 99 (by decide) (by decide) 99 rfl e.symm
      · exact z 100 (by decide) (by decide) 100 rfl e.symm
    unfold pName
    rw [if_neg (n 0 (by decide)), if_neg (n 1 (by decide)), if_neg (n 2 (by decide))]
/-- a byte of the tape as the class and as the reference keep it -/
def tOk (a b : Int32) : Prop := (a = b ∧ 0 ≤ a ∧ a < 128) ∨ (a < 0 ∧ -128 ≤ a ∧ 128 ≤ b)
theorem sg_jk {f r : Nat → Int32} {n : Nat} (h : ∀ i, i < n → tOk (f i) (r (90 + i))) : jkE (sgC f n) (smf r n) := by
  intro p
  unfold sgC smf
  by_cases hp : p < n
  · rw [if_pos hp, if_pos hp]
    rcases h p hp with e | e
    · exact Or.inl e.1
    · exact Or.inr ⟨jkC_of (Or.inl (Int32.lt_of_lt_of_le e.1 (by decide))), jkC_of (Or.inr (Int32.le_trans (by decide) e.2.2))⟩
  · rw [if_neg hp, if_neg hp]
    exact Or.inr ⟨jkC_of (Or.inl (by decide)), jkC_of (Or.inl (by decide))⟩
-- what is read
theorem hgt_cg {p q : Nat → Int32} : ∀ m, (∀ k, k < m → p k = q k) → hgt p m = hgt q m
  | 0, _ => rfl
  | m + 1, h => by
    simp only [hgt]
    rw [h m (by omega), hgt_cg m (fun k hk => h k (by omega))]
theorem WF_cg {p q : Nat → Int32} {n : Nat} (h : ∀ k, k < n → p k = q k) (hw : WF n p) : WF n q := by
  refine ⟨(hgt_cg n h).symm.trans hw.1, fun k hk => ?_⟩
  rw [← h k hk, ← hgt_cg k (fun j hj => h j (by omega))]; exact hw.2 k hk
def PX (e c : Nat) (s t : PS) : Prop := s.2.1 ≤ t.2.1 ∧ (∀ k, k < s.2.1 → t.2.2 k = s.2.2 k) ∧ (∀ k, s.2.1 ≤ k → k < t.2.1 → partOk (t.2.2 k) (hgt t.2.2 k)) ∧ hgt t.2.2 t.2.1 = hgt s.2.2 s.2.1 + e ∧ t.2.1 + s.1 + c ≤ t.1 + s.2.1
theorem PX_refl (s : PS) : PX 0 0 s s := ⟨Nat.le_refl _, fun _ _ => rfl, fun k h1 h2 => absurd h2 (by omega), rfl, by omega⟩
theorem PX_go {e c : Nat} {s t : PS} (h : PX e c s t) : PX e (c + 1) s (psGo t) := ⟨h.1, h.2.1, h.2.2.1, h.2.2.2.1, by have := h.2.2.2.2; show t.2.1 + s.1 + (c + 1) ≤ t.1 + 1 + s.2.1; omega⟩
theorem PX_weak {e c d : Nat} {s t : PS} (h : PX e c s t) (hd : d ≤ c) : PX e d s t := ⟨h.1, h.2.1, h.2.2.1, h.2.2.2.1, by have := h.2.2.2.2; omega⟩
theorem PX_tr {e c e2 c2 : Nat} {s t u : PS} (h : PX e c s t) (h2 : PX e2 c2 t u) : PX (e + e2) (c + c2) s u := by
  obtain ⟨a1, a2, a3, a4, a5⟩ := h
  obtain ⟨b1, b2, b3, b4, b5⟩ := h2
  refine ⟨by omega, fun k hk => (b2 k (by omega)).trans (a2 k hk), fun k k1 k2 => ?_, by omega, by omega⟩
  by_cases q : k < t.2.1
  · rw [b2 k q, hgt_cg k (fun j hj => b2 j (by omega))]; exact a3 k k1 q
  · exact b3 k (by omega) k2
theorem PX_add {e c e2 : Nat} {s t : PS} {x : Int32} (h : PX e (c + 1) s t) (h60 : t.2.1 < 60) (hp : partOk x (hgt t.2.2 t.2.1)) (he : (if -3 ≤ x then hgt t.2.2 t.2.1 + 1 else if x = -33 then hgt t.2.2 t.2.1 else hgt t.2.2 t.2.1 - 1) = hgt s.2.2 s.2.1 + e2) : PX e2 c s (psAdd t x) := by
  obtain ⟨a1, a2, a3, a4, a5⟩ := h
  have e1 : psAdd t x = (t.1, t.2.1 + 1, upd t.2.2 t.2.1 x) := if_pos h60
  rw [e1]
  have lo : ∀ k, k < t.2.1 → upd t.2.2 t.2.1 x k = t.2.2 k := fun k hk => if_neg (by omega)
  have eq : upd t.2.2 t.2.1 x t.2.1 = x := if_pos rfl
  refine ⟨by show s.2.1 ≤ t.2.1 + 1; omega, fun k hk => (lo k (by omega)).trans (a2 k hk), fun k k1 k2 => ?_, ?_, by show t.2.1 + 1 + s.1 + c ≤ t.1 + s.2.1; omega⟩
  · show partOk (upd t.2.2 t.2.1 x k) (hgt (upd t.2.2 t.2.1 x) k)
    have k3 : k < t.2.1 + 1 := k2
    rw [hgt_cg k (fun j hj => lo j (by omega))]
    by_cases q : k < t.2.1
    · rw [lo k q]; exact a3 k k1 q
    · rw [show k = t.2.1 by omega, eq]; exact hp
  · show hgt (upd t.2.2 t.2.1 x) (t.2.1 + 1) = _
    simp only [hgt]
    rw [eq, hgt_cg t.2.1 lo]; exact he
theorem go_add (s : PS) (x : Int32) : psGo (psAdd s x) = psAdd (psGo s) x := by
  unfold psGo psAdd; simp only; split <;> rfl
def PSp (n : Nat) (op : PS → PR) : Prop := ∀ s : PS, s.1 ≤ n → s.2.1 ≤ s.1 → (op s).1 = true → PX 1 0 s (op s).2
theorem lvl_sign {x : Int32} {L : Nat} (hL : L ≤ 5) (h : pLvl x = nI L) : isSign x := by
  unfold pLvl at h
  split at h
  · rename_i q; exact Or.inl q
  · split at h
    · rename_i q; exact Or.inr (Or.inl q)
    · split at h
      · rename_i q
        rcases q with q | q | q
        · exact Or.inr (Or.inr (Or.inl q))
        · exact Or.inr (Or.inr (Or.inr (Or.inl q)))
        · exact Or.inr (Or.inr (Or.inr (Or.inr (Or.inl q))))
      · split at h
        · rename_i q
          rcases q with q | q
          · exact Or.inr (Or.inr (Or.inr (Or.inr (Or.inr (Or.inl q)))))
          · exact Or.inr (Or.inr (Or.inr (Or.inr (Or.inr (Or.inr (Or.inl q))))))
        · split at h
          · rename_i q
            rcases q with q | q | q
            · exact Or.inr (Or.inr (Or.inr (Or.inr (Or.inr (Or.inr (Or.inr (Or.inl q)))))))
            · exact Or.inr (Or.inr (Or.inr (Or.inr (Or.inr (Or.inr (Or.inr (Or.inr (Or.inl q))))))))
            · exact Or.inr (Or.inr (Or.inr (Or.inr (Or.inr (Or.inr (Or.inr (Or.inr (Or.inr q))))))))
          · exact absurd h.symm (nI_m1 hL)
theorem pLoopJ_px {sg : Nat → Int32} {n L : Nat} (hn : n ≤ 60) (he : sgEnd sg n) (hL : L ≤ 5) {op : PS → PR} (hop : ∀ s, okS n s → okS n (op s).2) (hpx : PSp n op) : ∀ (k : Nat) (s : PS), s.1 ≤ n → s.2.1 ≤ s.1 → 1 ≤ hgt s.2.2 s.2.1 → (pLoopJ sg op (nI L) k s).1 = true → PX 0 0 s (pLoopJ sg op (nI L) k s).2
  | 0, s, _, _, _, _ => PX_refl s
  | k + 1, s, h1, h2, h3, h4 => by
    simp only [pLoopJ] at h4 ⊢
    by_cases hl : pLvl (sg s.1) = nI L
    · rw [if_pos hl] at h4 ⊢
      have hp := lvl_in he hL hl
      by_cases ho : (op (psGo s)).1 = true
      · rw [if_pos ho] at h4 ⊢
        have hk : okS n (op (psGo s)).2 := hop _ ⟨hp, by show s.2.1 ≤ 60; omega⟩
        have hx := hpx (psGo s) hp (by show s.2.1 ≤ s.1 + 1; omega) ho
        have hx1 : PX 1 1 s (op (psGo s)).2 := PX_tr (PX_go (PX_refl s)) hx
        have hsg := lvl_sign hL hl
        have hne := sign_ne hsg
        obtain ⟨b1, b2, b3, b4, b5⟩ := hx1
        have h60 : (op (psGo s)).2.2.1 < 60 := by have := hk.1; omega
        have hy : PX 0 0 s (psAdd (op (psGo s)).2 (-(sg s.1))) := PX_add ⟨b1, b2, b3, b4, b5⟩ h60
          (Or.inr (Or.inr ⟨by rw [Int32.neg_neg]; exact hsg, hne.2.2.2.2.1, hne.2.2.2.2.2, by omega⟩))
          (by rw [if_neg hne.2.2.2.2.1, if_neg hne.2.2.2.2.2]; omega)
        have hk2 := psAdd_ok (-(sg s.1)) hk
        have hz := pLoopJ_px hn he hL hop hpx k (psAdd (op (psGo s)).2 (-(sg s.1))) hk2.1 (by have := hy.2.2.2.2; omega) (by rw [hy.2.2.2.1]; omega) h4
        exact PX_tr hy hz
      · rw [if_neg ho] at h4; cases h4
    · rw [if_neg hl] at h4 ⊢
      exact PX_refl s
theorem pJd_px {sg : Nat → Int32} {n : Nat} (hn : n ≤ 60) (he : sgEnd sg n) {sng : PS → PR} (hs : ∀ s, okS n s → okS n (sng s).2) (hpx : PSp n sng) : ∀ (j : Nat), j ≤ 5 → PSp n (pJd sg sng j)
  | 0, _ => hpx
  | j + 1, hj => by
    intro s h1 h2 h4
    have ih := pJd_px hn he hs hpx j (by omega)
    have ok := pJd_ok he hs j (by omega)
    simp only [pJd] at h4 ⊢
    by_cases ho : (pJd sg sng j s).1 = true
    · rw [if_pos ho] at h4 ⊢
      have hx := ih s h1 h2 ho
      have hk := ok s ⟨h1, by omega⟩
      have := hx.2.2.2.2
      exact PX_tr hx (pLoopJ_px hn he (by omega) ok ih _ _ hk.1 (by omega) (by rw [hx.2.2.2.1]; omega) h4)
    · rw [if_neg ho] at h4; cases h4
theorem pDig_px {sg : Nat → Int32} {n : Nat} (hn : n ≤ 60) (he : sgEnd sg n) {s : PS} (h1 : s.1 ≤ n) (h2 : s.2.1 ≤ s.1) (hd : isDg (sg s.1) = true) : PX 1 0 s (pDig sg s).2 := by
  have hp : s.1 < n := by
    rcases Nat.lt_or_ge s.1 n with q | q
    · exact q
    · rw [(he _ q).1] at hd; cases hd
  have hm : s.1 + 1 ≤ (pNum sg 4 s.1 0).1 := by
    show s.1 + 1 ≤ (pNum sg (3 + 1) s.1 0).1
    simp only [pNum]; rw [if_pos hd]; exact pNum_mono sg 3 (s.1 + 1) _
  obtain ⟨v, hv, ev⟩ := pNum_val sg 4 s.1 0 1 (by decide) (by decide)
  have ev2 : (pNum sg 4 s.1 0).2 = nI v := ev
  show PX 1 0 s (psAdd ((pNum sg 4 s.1 0).1, s.2) (pNum sg 4 s.1 0).2)
  rw [ev2]
  have hx : PX 0 1 s ((pNum sg 4 s.1 0).1, s.2) := ⟨Nat.le_refl _, fun _ _ => rfl, fun k k1 k2 => absurd k2 (by show ¬ k < s.2.1; omega), rfl, by show s.2.1 + s.1 + 1 ≤ (pNum sg 4 s.1 0).1 + s.2.1; omega⟩
  have hv2 : v < 10000 := hv
  have h3 : (-3 : Int32) ≤ nI v := Int32.le_trans (show (-3 : Int32) ≤ 0 by decide) (Int32.not_lt.mp (nI_pos (by omega)))
  exact PX_add hx (by show s.2.1 < 60; omega) (Or.inl ⟨h3, (nI_leI (a := v) (b := 9999) (by omega) (by decide)).mpr (by omega)⟩) (by rw [if_pos h3])
theorem nmS_px {sg : Nat → Int32} {n u : Nat} (hn : n ≤ 60) (he : sgEnd sg n) (hu : u < 2) {s : PS} (h1 : s.1 ≤ n) (h2 : s.2.1 ≤ s.1) (hs : (pName u (sg s.1)).isSome = true) : PX 1 0 s (nmS s (pName u (sg s.1))) := by
  rcases Nat.lt_or_ge s.1 n with q | q
  · cases hq : pName u (sg s.1) with
    | none => rw [hq] at hs; cases hs
    | some i =>
      have hi : i < 3 := by
        unfold pName at hq
        split at hq
        · have := Option.some.inj hq; omega
        · split at hq
          · have := Option.some.inj hq; omega
          · split at hq
            · have := Option.some.inj hq; omega
            · cases hq
      show PX 1 0 s (psGo (psAdd s (-1 - nI i)))
      rw [go_add]
      have hm := nm_part hi
      exact PX_add (PX_go (PX_refl s)) (by show s.2.1 < 60; omega) (Or.inl ⟨hm.2, by rcases (show i = 0 ∨ i = 1 ∨ i = 2 by omega) with rfl | rfl | rfl <;> decide⟩) (by rw [if_pos hm.2]; rfl)
  · rw [(he _ q).2.2.2.2.2 u hu] at hs; cases hs
theorem pSg_px {sg : Nat → Int32} {n u : Nat} (hn : n ≤ 60) (he : sgEnd sg n) (hu : u < 2) : ∀ od, PSp n (pSg sg u od)
  | 0 => by
    intro s h1 h2 h4
    simp only [pSg] at h4 ⊢
    by_cases hd : isDg (sg s.1) = true
    · rw [if_pos hd]; exact pDig_px hn he h1 h2 hd
    · rw [if_neg hd] at h4 ⊢
      by_cases hx : sg s.1 = 33 ∨ sg s.1 = 40
      · rw [if_pos hx] at h4; cases h4
      · rw [if_neg hx] at h4 ⊢; exact nmS_px hn he hu h1 h2 h4
  | od + 1 => by
    intro s h1 h2 h4
    have ih := pSg_px hn he hu od
    have ok := pSg_ok he hu od
    simp only [pSg] at h4 ⊢
    by_cases hd : isDg (sg s.1) = true
    · rw [if_pos hd]; exact pDig_px hn he h1 h2 hd
    · rw [if_neg hd] at h4 ⊢
      by_cases hx : sg s.1 = 33
      · rw [if_pos hx] at h4 ⊢
        by_cases ho : (pSg sg u od (psGo s)).1 = true
        · rw [if_pos ho]
          have hp := at_in he (Or.inl hx)
          have h := ih (psGo s) hp (by show s.2.1 ≤ s.1 + 1; omega) ho
          have hk := ok (psGo s) ⟨hp, by show s.2.1 ≤ 60; omega⟩
          obtain ⟨b1, b2, b3, b4, b5⟩ := PX_tr (PX_go (PX_refl s)) h
          have := hk.1
          exact PX_add ⟨b1, b2, b3, b4, b5⟩ (by omega) (Or.inr (Or.inl ⟨rfl, by omega⟩)) (by rw [if_neg (by decide), if_pos rfl]; omega)
        · rw [if_neg ho] at h4; cases h4
      · rw [if_neg hx] at h4 ⊢
        by_cases hy : sg s.1 = 40
        · rw [if_pos hy] at h4 ⊢
          by_cases ho : (pJd sg (pSg sg u od) 5 (psGo s)).1 = true ∧ sg (pJd sg (pSg sg u od) 5 (psGo s)).2.1 = 41
          · rw [if_pos ho]
            have hp := at_in he (Or.inr (Or.inl hy))
            have h := pJd_px hn he ok ih 5 (Nat.le_refl _) (psGo s) hp (by show s.2.1 ≤ s.1 + 1; omega) ho.1
            exact PX_weak (PX_go (PX_tr (PX_go (PX_refl s)) h)) (by omega)
          · rw [if_neg ho] at h4; cases h4
        · rw [if_neg hy] at h4 ⊢; exact nmS_px hn he hu h1 h2 h4
theorem pParse_ok {sg : Nat → Int32} {n u : Nat} (he : sgEnd sg n) (hu : u < 2) (f : Nat → Int32) : okS n (pParse sg u f).2 :=
  pJd_ok he (pSg_ok he hu 5) 5 (Nat.le_refl _) _ ⟨Nat.zero_le _, Nat.zero_le _⟩
theorem pParse_WF {sg : Nat → Int32} {n u : Nat} (hn : n ≤ 60) (he : sgEnd sg n) (hu : u < 2) (f : Nat → Int32) (h : (pParse sg u f).1 = true) : WF (pParse sg u f).2.2.1 (pParse sg u f).2.2.2 := by
  have hx := pJd_px hn he (pSg_ok he hu 5) (pSg_px hn he hu 5) 5 (Nat.le_refl _) (0, 0, f) (Nat.zero_le _) (Nat.le_refl _) h
  obtain ⟨-, -, b3, b4, -⟩ := hx
  exact ⟨b4, fun k hk => b3 k (Nat.zero_le _) hk⟩
-- odds
theorem odR_eq : ∀ g, g ≤ 72 → odR 72 g 72 = (g / cdR g 72, 72 / cdR g 72) := by
  have h : ∀ g : Fin 73, odR 72 g.1 72 = (g.1 / cdR g.1 72, 72 / cdR g.1 72) := by decide +kernel
  intro g hg
  exact h ⟨g, by omega⟩
