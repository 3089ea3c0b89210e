-- THE FLAT MEMORY: all objects of class and reference stand under numbers 0 .. 104 (addresses: ga g), what they hold are ints M k j; KW is the goal at an instruction
abbrev Mem : Type := Nat → Nat → Int32
def mrow (M : Mem) (k : Nat) (f : Nat → Int32) : Mem := fun a => if a = k then f else M a
def mu (M : Mem) (k i : Nat) (x : Int32) : Mem := mrow M k (upd (M k) i x)
theorem mrow_s (M : Mem) (k : Nat) (f : Nat → Int32) : mrow M k f k = f := if_pos rfl
theorem mrow_n (M : Mem) {k a : Nat} (f : Nat → Int32) (h : a ≠ k) : mrow M k f a = M a := if_neg h
theorem mu_n (M : Mem) {k a : Nat} (i : Nat) (x : Int32) (h : a ≠ k) : mu M k i x a = M a := if_neg h
theorem mu_r (M : Mem) (k i : Nat) (x : Int32) : mu M k i x k = upd (M k) i x := if_pos rfl
theorem mu_s (M : Mem) (k i : Nat) (x : Int32) : mu M k i x k i = x := by rw [mu_r]; exact if_pos rfl
theorem mu_o (M : Mem) (k : Nat) {i j : Nat} (x : Int32) (h : j ≠ i) : mu M k i x k j = M k j := by rw [mu_r]; exact if_neg h
theorem mu_at (M : Mem) (k i : Nat) (x : Int32) (a j : Nat) : mu M k i x a j = if a = k ∧ j = i then x else M a j := by
  by_cases h : a = k
  · subst h
    rw [mu_r]
    by_cases h2 : j = i
    · simp [upd, h2]
    · simp [upd, h2]
  · rw [mu_n _ _ _ h]; simp [h]
abbrev GT : Type := va_G × (Nat → ClassId) × (Nat → Nat) × Nat
abbrev gD (g : GT) : va_G := g.1
abbrev gC (g : GT) : Nat → ClassId := g.2.1
abbrev ga (g : GT) : Nat → Nat := g.2.2.1
abbrev gl (g : GT) : Nat := g.2.2.2
abbrev gA (g : GT) : Nat → Prop := fun q => gl g ≤ q
abbrev rfs (h : Nat → Nat) : (Nat → Int32) ⊕ (Nat → Int64) ⊕ (Nat → UInt32) ⊕ (Nat → UInt64) ⊕ (Nat → Option Nat) := .inr (.inr (.inr (.inr (fun i => some (h i)))))
def mlen (k : Nat) : Nat := if k < 95 then 416 else if k < 96 then 7 else if k < 98 then 4 else if k < 99 then 96 else if k < 101 then 60 else if k < 102 then 3 else if k < 103 then 60 else if k < 104 then 72 else 30
def cE (g : GT) (k : Nat) (f : Nat → Int32) : va_E :=
  if k < 37 then .inr (2, [.int (f 0), .int (f 1), .int (f 2), .int (f 3), .int (f 4), .int (f 5), .int (f 6)])
  else if k < 40 then .inr (1, [.ref (ga g (k + 3)), .int (f 1), .int (f 2), .int (f 3), .int (f 4)])
  else if k < 43 then .inl (gC g 3, 12, rfs (fun i => ga g (12 * (k - 40) + i)))
  else if k < 45 then .inr (8, [.ref (ga g (k - 6)), .ref (ga g (k + 2)), .ref (ga g (k + 19)), .int (f 3), .ref (ga g (k + 22)), .int (f 5)])
  else if k < 47 then .inl (gC g 4, 2, rfs (fun i => ga g (2 * (k - 45) + 47 + i)))
  else if k < 52 then .inr (3, [.ref (ga g (k + 5)), .int (f 1), .ref (ga g (k + 10)), .int (f 3)])
  else if k < 62 then .inl (gC g 0, 60, .inl f)
  else if k < 64 then .inl (gC g 1, 60, .inl f)
  else if k < 65 then .inl (gC g 1, 0, .inl f)
  else if k < 67 then .inl (gC g 0, 24, .inl f)
  else if k < 68 then .inr (0, [.ref (ga g 68)])
  else if k < 69 then .inl (gC g 0, 12, .inl f)
  else if k < 71 then .inr (4, [.ref (ga g (k + 2)), .ref (ga g (k + 4)), .ref (ga g (k + 6))])
  else if k < 75 then .inl (gC g 0, (if k % 2 = 1 then 12 else 6), .inl f)
  else if k < 77 then .inl (gC g 2, (if k % 2 = 1 then 12 else 6), .inl f)
  else if k < 78 then .inr (7, [.ref (ga g 51), .int (f 1), .ref (ga g (f 2).toNatClampNeg), .int (f 3), .int (f 4)])
  else if k < 79 then .inr (6, [.ref (ga g 79), .int (f 1), .int (f 2), .int (f 3), .int (f 4), .int (f 5)])
  else if k < 80 then .inl (gC g 0, 30, .inl f)
  else if k < 81 then .inl (gC g 5, 4, rfs (fun i => ga g (81 + i)))
  else if k < 85 then .inr (5, [.ref (ga g (k + 4)), .int (f 1), .int (f 2)])
  else if k < 89 then .inl (gC g 0, 24, .inl f)
  else if k < 90 then .inl (gC g 0, 7, .inl f)
  else if k < 91 then .inr (9, [.ref (ga g 43), .ref (ga g 44), .int (f 2), .ref (ga g 39), .ref (ga g 36), .ref (ga g 67), .ref (ga g 69), .ref (ga g 70), .ref (ga g 77), .ref (ga g 78), .ref (ga g 80), .ref (ga g 89)])
  else if k < 92 then .inr (10, [.ref (ga g 92), .ref (ga g 93), .ref (ga g 94), .int (f 3), .ref (ga g 95), .ref (ga g 96), .ref (ga g 97), .ref (ga g 98), .ref (ga g 99), .ref (ga g 100), .ref (ga g 101), .ref (ga g 102), .int (f 12), .int (f 13), .int (f 14), .int (f 15), .int (f 16), .ref (ga g 103), .ref (ga g 104), .int (f 19), .int (f 20)])
  else .inl (gC g 0, mlen k, .inl f)
theorem ce_fu (g : GT) {k : Nat} (f : Nat → Int32) (h : k < 37) : cE g k f = .inr (2, [.int (f 0), .int (f 1), .int (f 2), .int (f 3), .int (f 4), .int (f 5), .int (f 6)]) := if_pos h
theorem ce_fld (g : GT) {i : Nat} (f : Nat → Int32) (h : i < 3) : cE g (37 + i) f = .inr (1, [.ref (ga g (40 + i)), .int (f 1), .int (f 2), .int (f 3), .int (f 4)]) := by
  rcases (show i = 0 ∨ i = 1 ∨ i = 2 by omega) with rfl | rfl | rfl <;> rfl
theorem ce_fa (g : GT) {i : Nat} (f : Nat → Int32) (h : i < 3) : cE g (40 + i) f = .inl (gC g 3, 12, rfs (fun j => ga g (12 * i + j))) := by
  rcases (show i = 0 ∨ i = 1 ∨ i = 2 by omega) with rfl | rfl | rfl <;> rfl
theorem ce_wld (g : GT) {i : Nat} (f : Nat → Int32) (h : i < 2) : cE g (43 + i) f = .inr (8, [.ref (ga g (37 + i)), .ref (ga g (45 + i)), .ref (ga g (62 + i)), .int (f 3), .ref (ga g (65 + i)), .int (f 5)]) := by
  rcases (show i = 0 ∨ i = 1 by omega) with rfl | rfl <;> rfl
theorem ce_la (g : GT) {i : Nat} (f : Nat → Int32) (h : i < 2) : cE g (45 + i) f = .inl (gC g 4, 2, rfs (fun j => ga g (47 + (2 * i + j)))) := by
  rcases (show i = 0 ∨ i = 1 by omega) with rfl | rfl
  · show _ = Sum.inl (gC g 4, 2, rfs (fun j => ga g (47 + (0 + j))))
    simp only [Nat.zero_add]; rfl
  · show Sum.inl (gC g 4, 2, rfs (fun j => ga g (49 + j))) = Sum.inl (gC g 4, 2, rfs (fun j => ga g (47 + (2 + j))))
    have e : ∀ j : Nat, 47 + (2 + j) = 49 + j := fun j => by omega
    simp only [e]
theorem ce_law (g : GT) {i : Nat} (f : Nat → Int32) (h : i < 5) : cE g (47 + i) f = .inr (3, [.ref (ga g (52 + i)), .int (f 1), .ref (ga g (57 + i)), .int (f 3)]) := by
  rcases (show i = 0 ∨ i = 1 ∨ i = 2 ∨ i = 3 ∨ i = 4 by omega) with rfl | rfl | rfl | rfl | rfl <;> rfl
theorem ce_lp (g : GT) {i : Nat} (h : i < 5) (f : Nat → Int32) : cE g (52 + i) f = .inl (gC g 0, 60, .inl f) := by
  rcases (show i = 0 ∨ i = 1 ∨ i = 2 ∨ i = 3 ∨ i = 4 by omega) with rfl | rfl | rfl | rfl | rfl <;> rfl
theorem ce_ls (g : GT) {i : Nat} (h : i < 5) (f : Nat → Int32) : cE g (57 + i) f = .inl (gC g 0, 60, .inl f) := by
  rcases (show i = 0 ∨ i = 1 ∨ i = 2 ∨ i = 3 ∨ i = 4 by omega) with rfl | rfl | rfl | rfl | rfl <;> rfl
theorem ce_tp (g : GT) {i : Nat} (h : i < 2) (f : Nat → Int32) : cE g (62 + i) f = .inl (gC g 1, 60, .inl f) := by
  rcases (show i = 0 ∨ i = 1 by omega) with rfl | rfl <;> rfl
theorem ce_wt (g : GT) {i : Nat} (h : i < 2) (f : Nat → Int32) : cE g (65 + i) f = .inl (gC g 0, 24, .inl f) := by
  rcases (show i = 0 ∨ i = 1 by omega) with rfl | rfl <;> rfl
def scl (t n : Nat) : Prop := (t = 0 ∧ n = 12) ∨ (t = 1 ∧ n = 6)
theorem ce_sc (g : GT) {t n : Nat} (f : Nat → Int32) (h : scl t n) : cE g (69 + t) f = .inr (4, [.ref (ga g (71 + t)), .ref (ga g (73 + t)), .ref (ga g (75 + t))]) := by
  rcases h with ⟨rfl, rfl⟩ | ⟨rfl, rfl⟩ <;> rfl
theorem ce_sst (g : GT) {t n : Nat} (h : scl t n) (f : Nat → Int32) : cE g (71 + t) f = .inl (gC g 0, n, .inl f) := by
  rcases h with ⟨rfl, rfl⟩ | ⟨rfl, rfl⟩ <;> rfl
theorem ce_sco (g : GT) {t n : Nat} (h : scl t n) (f : Nat → Int32) : cE g (73 + t) f = .inl (gC g 0, n, .inl f) := by
  rcases h with ⟨rfl, rfl⟩ | ⟨rfl, rfl⟩ <;> rfl
theorem ce_sse (g : GT) {t n : Nat} (h : scl t n) (f : Nat → Int32) : cE g (75 + t) f = .inl (gC g 2, n, .inl f) := by
  rcases h with ⟨rfl, rfl⟩ | ⟨rfl, rfl⟩ <;> rfl
theorem ce_sh (g : GT) {i : Nat} (f : Nat → Int32) (h : i < 4) : cE g (81 + i) f = .inr (5, [.ref (ga g (85 + i)), .int (f 1), .int (f 2)]) := by
  rcases (show i = 0 ∨ i = 1 ∨ i = 2 ∨ i = 3 by omega) with rfl | rfl | rfl | rfl <;> rfl
theorem ce_sn (g : GT) {i : Nat} (h : i < 4) (f : Nat → Int32) : cE g (85 + i) f = .inl (gC g 0, 24, .inl f) := by
  rcases (show i = 0 ∨ i = 1 ∨ i = 2 ∨ i = 3 by omega) with rfl | rfl | rfl | rfl <;> rfl
theorem ce_67 (g : GT) (f : Nat → Int32) : cE g 67 f = .inr (0, [.ref (ga g 68)]) := rfl
theorem ce_68 (g : GT) (f : Nat → Int32) : cE g 68 f = .inl (gC g 0, 12, .inl f) := rfl
theorem ce_77 (g : GT) (f : Nat → Int32) : cE g 77 f = .inr (7, [.ref (ga g 51), .int (f 1), .ref (ga g (f 2).toNatClampNeg), .int (f 3), .int (f 4)]) := rfl
theorem ce_78 (g : GT) (f : Nat → Int32) : cE g 78 f = .inr (6, [.ref (ga g 79), .int (f 1), .int (f 2), .int (f 3), .int (f 4), .int (f 5)]) := rfl
theorem ce_79 (g : GT) (f : Nat → Int32) : cE g 79 f = .inl (gC g 0, 30, .inl f) := rfl
theorem ce_80 (g : GT) (f : Nat → Int32) : cE g 80 f = .inl (gC g 5, 4, rfs (fun i => ga g (81 + i))) := rfl
theorem ce_89 (g : GT) (f : Nat → Int32) : cE g 89 f = .inl (gC g 0, 7, .inl f) := rfl
theorem ce_90 (g : GT) (f : Nat → Int32) : cE g 90 f = .inr (9, [.ref (ga g 43), .ref (ga g 44), .int (f 2), .ref (ga g 39), .ref (ga g 36), .ref (ga g 67), .ref (ga g 69), .ref (ga g 70), .ref (ga g 77), .ref (ga g 78), .ref (ga g 80), .ref (ga g 89)]) := rfl
theorem ce_91 (g : GT) (f : Nat → Int32) : cE g 91 f = .inr (10, [.ref (ga g 92), .ref (ga g 93), .ref (ga g 94), .int (f 3), .ref (ga g 95), .ref (ga g 96), .ref (ga g 97), .ref (ga g 98), .ref (ga g 99), .ref (ga g 100), .ref (ga g 101), .ref (ga g 102), .int (f 12), .int (f 13), .int (f 14), .int (f 15), .int (f 16), .ref (ga g 103), .ref (ga g 104), .int (f 19), .int (f 20)]) := rfl
theorem ce_92 (g : GT) (f : Nat → Int32) : cE g 92 f = .inl (gC g 0, 416, .inl f) := rfl
theorem ce_93 (g : GT) (f : Nat → Int32) : cE g 93 f = .inl (gC g 0, 416, .inl f) := rfl
theorem ce_94 (g : GT) (f : Nat → Int32) : cE g 94 f = .inl (gC g 0, 416, .inl f) := rfl
theorem ce_95 (g : GT) (f : Nat → Int32) : cE g 95 f = .inl (gC g 0, 7, .inl f) := rfl
theorem ce_96 (g : GT) (f : Nat → Int32) : cE g 96 f = .inl (gC g 0, 4, .inl f) := rfl
theorem ce_97 (g : GT) (f : Nat → Int32) : cE g 97 f = .inl (gC g 0, 4, .inl f) := rfl
theorem ce_98 (g : GT) (f : Nat → Int32) : cE g 98 f = .inl (gC g 0, 96, .inl f) := rfl
theorem ce_99 (g : GT) (f : Nat → Int32) : cE g 99 f = .inl (gC g 0, 60, .inl f) := rfl
theorem ce_100 (g : GT) (f : Nat → Int32) : cE g 100 f = .inl (gC g 0, 60, .inl f) := rfl
theorem ce_101 (g : GT) (f : Nat → Int32) : cE g 101 f = .inl (gC g 0, 3, .inl f) := rfl
theorem ce_102 (g : GT) (f : Nat → Int32) : cE g 102 f = .inl (gC g 0, 60, .inl f) := rfl
theorem ce_103 (g : GT) (f : Nat → Int32) : cE g 103 f = .inl (gC g 0, 72, .inl f) := rfl
theorem ce_104 (g : GT) (f : Nat → Int32) : cE g 104 f = .inl (gC g 0, 30, .inl f) := rfl
theorem ce_64 (g : GT) (f : Nat → Int32) : cE g 64 f = .inl (gC g 1, 0, .inl f) := rfl
def wl (g : GT) (M : Mem) : va_W := (List.range 105).map (fun k => (ga g k, cE g k (M k)))
theorem wl_get (g : GT) (M : Mem) {k : Nat} (hk : k < 105) : (wl g M)[k]? = some (ga g k, cE g k (M k)) := by
  simp [wl, hk]
theorem wl_set (g : GT) (M : Mem) {k : Nat} (hk : k < 105) {f : Nat → Int32} {e : va_E} (he : cE g k f = e) : (wl g M).set k (ga g k, e) = wl g (mrow M k f) := by
  apply List.ext_getElem?
  intro j
  rw [List.getElem?_set]
  by_cases hj : k = j
  · subst hj
    rw [if_pos rfl, wl_get g _ hk, mrow_s, he]
    simp [wl, hk]
  · rw [if_neg hj]
    simp only [wl, List.getElem?_map]
    by_cases h2 : j < 105
    · simp [h2, mrow_n M f (fun h => hj h.symm)]
    · simp [h2]
theorem wl_D {A : Nat → Prop} (g : GT) (M M' : Mem) (h : va_D A (wl g M)) : va_D A (wl g M') := by
  have key : ∀ (i : Nat) (q : Nat × va_E), (wl g M')[i]? = some q → ∃ q' : Nat × va_E, (wl g M)[i]? = some q' ∧ q'.1 = q.1 := by
    intro i q hq
    by_cases hi : i < 105
    · rw [wl_get g M' hi] at hq
      exact ⟨_, wl_get g M hi, by rw [← Option.some.inj hq]⟩
    · simp [wl, hi] at hq
  refine ⟨fun i j p q hp hq hpq => ?_, fun k q hq => ?_⟩
  · obtain ⟨p', h1, h2⟩ := key i p hp
    obtain ⟨q', h3, h4⟩ := key j q hq
    exact h.1 i j p' q' h1 h3 (by rw [h2, h4, hpq])
  · obtain ⟨q', h1, h2⟩ := key k q hq
    rw [← h2]; exact h.2 k q' h1
def tysG (g : GT) : List (ClassId × FieldType) := [(gC g 0, .int), (gC g 1, .byte), (gC g 2, .boolean), (gC g 3, .object "FurrowTalk$Furrow"), (gC g 4, .object "FurrowTalk$Law"), (gC g 5, .object "FurrowTalk$Sheet")]
def f105 : Nat → Value := fun j => .int (([-1, 0, 0, 0, 1, 2, 0] : List Int32).getD j 0)
def f106 : Nat → Value := fun j => .int (([97, 98, 107, 108, 99, 100] : List Int32).getD j 0)
def NW : List Cond := [(Jvm.Cond.methodLinkNest "FurrowTalk$Field" (24 : Nat) ({ cls := "FurrowTalk$Furrow", name := "<init>", desc := "()V" } : Jvm.MethodName) "FurrowTalk"), (Jvm.Cond.methodLinkNest "FurrowTalk$World" (32 : Nat) ({ cls := "FurrowTalk$Law", name := "<init>", desc := "()V" } : Jvm.MethodName) "FurrowTalk"), (Jvm.Cond.methodLinkNest "FurrowTalk" (28 : Nat) ({ cls := "FurrowTalk$Furrow", name := "<init>", desc := "()V" } : Jvm.MethodName) "FurrowTalk"), (Jvm.Cond.methodLinkNest "FurrowTalk" (35 : Nat) ({ cls := "FurrowTalk$Chains", name := "<init>", desc := "()V" } : Jvm.MethodName) "FurrowTalk"), (Jvm.Cond.methodLinkNest "FurrowTalk" (54 : Nat) ({ cls := "FurrowTalk$TextReader", name := "<init>", desc := "()V" } : Jvm.MethodName) "FurrowTalk"), (Jvm.Cond.methodLinkNest "FurrowTalk$TextReader" (11 : Nat) ({ cls := "FurrowTalk$Law", name := "<init>", desc := "()V" } : Jvm.MethodName) "FurrowTalk"), (Jvm.Cond.methodLinkNest "FurrowTalk" (61 : Nat) ({ cls := "FurrowTalk$Speaker", name := "<init>", desc := "()V" } : Jvm.MethodName) "FurrowTalk"), (Jvm.Cond.methodLinkNest "FurrowTalk" (76 : Nat) ({ cls := "FurrowTalk$Sheet", name := "<init>", desc := "()V" } : Jvm.MethodName) "FurrowTalk"), (Jvm.Cond.methodLinkNest "FurrowTalk$Law" (39 : Nat) ({ cls := "FurrowTalk", name := "asNumber", desc := "(Z)I" } : Jvm.MethodName) "FurrowTalk"), (Jvm.Cond.methodLinkNest "FurrowTalk$World" (41 : Nat) ({ cls := "FurrowTalk", name := "hold", desc := "(III)I" } : Jvm.MethodName) "FurrowTalk"), (Jvm.Cond.methodLinkNest "FurrowTalk$Furrow" (24 : Nat) ({ cls := "FurrowTalk", name := "isKind", desc := "(I)Z" } : Jvm.MethodName) "FurrowTalk"), (Jvm.Cond.fieldLinkNest "FurrowTalk$Furrow" (28 : Nat) "FurrowTalk" "KIND_ABOVE" "[I" "FurrowTalk"), (Jvm.Cond.methodLinkNest "FurrowTalk$Field" (87 : Nat) ({ cls := "FurrowTalk", name := "lineAt", desc := "(I)I" } : Jvm.MethodName) "FurrowTalk")]
theorem NW_warm {s U : State} (hW : s.WarmedH U.vm) (h : ∀ w ∈ NW, va_Nw w s) : ∀ w ∈ NW, va_Nw w U := by
  intro w hw
  have h0 := h w hw
  simp only [NW, List.mem_cons, List.not_mem_nil, or_false] at hw
  rcases hw with rfl | rfl | rfl | rfl | rfl | rfl | rfl | rfl | rfl | rfl | rfl | rfl | rfl <;> first | exact va_Nw.warmM hW h0 | exact va_Nw.warmF hW h0
theorem NW_same {s U : State} (hW : s.vm = U.vm) (h : ∀ w ∈ NW, va_Nw w s) : ∀ w ∈ NW, va_Nw w U := by
  intro w hw
  have h0 := h w hw
  simp only [NW, List.mem_cons, List.not_mem_nil, or_false] at hw
  rcases hw with rfl | rfl | rfl | rfl | rfl | rfl | rfl | rfl | rfl | rfl | rfl | rfl | rfl <;> exact va_Nw.same rfl hW h0
def SZ (g : GT) (U : State) (H : Heap) : Prop := va_Z "FurrowTalk" "KIND_ABOVE" "[I" (.ref (ga g 105)) (gA g) U H ∧ va_T .int (ga g 105) 7 f105 (gA g) U H ∧ va_Z "FurrowTalk$TextReader" "NAMES" "[C" (.ref (ga g 106)) (gA g) U H ∧ va_T .char (ga g 106) 6 f106 (gA g) U H
theorem SZ.moved {g : GT} {u U : State} {H : Heap} (hvm : u.vm.Alike U.vm) (h : SZ g u H) : SZ g U H := ⟨h.1.moved hvm, h.2.1.moved hvm, h.2.2.1.moved hvm, h.2.2.2.moved hvm⟩
theorem SZ.kept {g : GT} {U : State} {H H1 : Heap} (h : SZ g U H) (hq : ∀ a : Nat, a < H.size → ¬ gA g a → H1[a]? = H[a]?) : SZ g U H1 := ⟨h.1.kept hq, h.2.1.kept hq, h.2.2.1.kept hq, h.2.2.2.kept hq⟩
def Wd (g : GT) (M : Mem) (U : State) : Prop := va_P (gD g) vwCl (wl g M) U.heap ∧ va_K (gD g) vwCl (tysG g) U ∧ va_D (gA g) (wl g M) ∧ (∀ w ∈ NW, va_Nw w U) ∧ SZ g U U.heap
theorem Wd_blind {g : GT} {M : Mem} {av : List Value} : FrameBlind (va_Pc av (Wd g M)) := by
  intro a U gf mk q
  obtain ⟨q0, qP, qK, qD, qN, qS⟩ := q
  exact ⟨q0, qP, va_K.moved (u := U) (U := U.calling gf mk a) (Vm.Alike.refl U.vm) qK, qD, NW_same (s := U) (U := U.calling gf mk a) rfl qN, SZ.moved (u := U) (U := U.calling gf mk a) (Vm.Alike.refl U.vm) qS⟩
def rmD (d : Nat) : Room := { frames := d + 1, cells := 0, slots := 0, locals := 48 * d + 48 }
def kQI (g : GT) (post : Int32 → Mem → Prop) : Array Value → State → Outcome → State → Prop := fun _ st oc t => (∃ (r : Int32) (M : Mem), oc = .returned (some (.int r)) ∧ post r M ∧ va_P (gD g) vwCl (wl g M) t.heap) ∧ va_F (gA g) st t
def kQV (g : GT) (post : Mem → Prop) : Array Value → State → Outcome → State → Prop := fun _ st oc t => (∃ (M : Mem), oc = .returned none ∧ post M ∧ va_P (gD g) vwCl (wl g M) t.heap) ∧ va_F (gA g) st t
def CtrI (l : Launch) (g : GT) (y : MethodName) (cc : ByteArray) (nL : Nat) (ret : Option FieldType) (d : Nat) (av : List Value) (M : Mem) (post : Int32 → Mem → Prop) : Prop := Met l y (.code y cc nL ret :: wA) (rmD d) (va_Pc av (Wd g M)) (kQI g post) 0 0 (gA g)
def CtrV (l : Launch) (g : GT) (y : MethodName) (cc : ByteArray) (nL : Nat) (d : Nat) (av : List Value) (M : Mem) (post : Mem → Prop) : Prop := Met l y (.code y cc nL none :: wA) (rmD d) (va_Pc av (Wd g M)) (kQV g post) 0 0 (gA g)
def CtrE (l : Launch) (g : GT) (y : MethodName) (cc : ByteArray) (nL : Nat) (ret : Option FieldType) (d : Nat) (av : List Value) (M : Mem) (v : Int32) (M1 : Mem) : Prop := CtrI l g y cc nL ret d av M (fun r M' => r = v ∧ M' = M1)
def CtrU (l : Launch) (g : GT) (y : MethodName) (cc : ByteArray) (nL : Nat) (d : Nat) (av : List Value) (M : Mem) (M1 : Mem) : Prop := CtrV l g y cc nL d av M (fun M' => M' = M1)
def FLk (own : String) (idx ci j : Nat) (C : String) (T : u_T) (N : Nat) : Prop := vwCl[ci]? = some (C, T, N) ∧ (∀ w ∈ u_ws C T N, w ∈ wA) ∧ j < N ∧ Cond.fieldLink own idx (T j).1 (T j).2.1 (T j).2.2.1 ∈ wA
def PLk (C : String) (T : u_T) (N : Nat) (ty : Nat → FieldType) : Prop := (∀ k, k < N → parseFieldDescriptor (T k).2.2.1 = some (ty k)) ∧ (∀ a, a < N → ∀ b, b < N → a ≠ b → (T a).2.1 ≠ (T b).2.1)
/-- a method of the tables, of ret, with its code -/
def MLk (y : MethodName) (cc : ByteArray) (nL : Nat) (ret : Option FieldType) (n : Nat) : Prop := Cond.code y cc nL ret ∈ wA ∧ Cond.initialized y.cls ∈ wA ∧ y.cls ≠ "java/lang/invoke/MethodHandle" ∧ y.cls ≠ "java/lang/invoke/VarHandle" ∧ (parseMethodDescriptor y.desc).map (fun d => d.parameters.length) = some n
/-- .. that is called by invokevirtual -/
def VLk (y : MethodName) : Prop := Cond.instanceMethod y ∈ wA ∧ Cond.selects y.cls y y ∈ wA
theorem wA_good {y : MethodName} {cc : ByteArray} {nL : Nat} {ret : Option FieldType} (h : Cond.code y cc nL ret ∈ wA) : GoodIn wA (.code y cc nL ret :: wA) := by
  intro w hw
  rcases List.mem_cons.mp hw with rfl | hw
  · exact ⟨h, (wA_in _ h).2⟩
  · exact ⟨hw, (wA_in _ hw).2⟩
def b2i (b : Bool) : Int32 := if b then 1 else 0
theorem b2i_t : b2i true = 1 := rfl
theorem b2i_f : b2i false = 0 := rfl
theorem nar_b2i (b : Bool) : narrow .boolean (.int (b2i b)) = .int (b2i b) := by cases b <;> rfl
section KW
variable {p : Program} {l : Launch} {e : Env} {R : Room} {s : State} {m : MethodId} {args : Array Value} {below : List Frame} {meth : Method} {c : Code} {g : GT} {own : String} {cc : ByteArray} {nL : Nat} {rt : Option FieldType} {Q : State → Prop} {M : Mem} {pc : Nat} {lo : List (Nat × Value)} {st : List Value}
def Cx (p : Program) (R : Room) (s : State) (m : MethodId) (args : Array Value) (meth : Method) (c : Code) (g : GT) (own : String) (cc : ByteArray) (nL : Nat) (rt : Option FieldType) (d : Nat) : Prop :=
  p.tables.exec = Jvm.exec ∧ c.code = cc ∧ c.maxLocals = nL ∧ s.vm.findClass own = some m.cls ∧ (∀ w ∈ wA, w.before args s = true) ∧ va_K (gD g) vwCl (tysG g) s ∧ (∀ M : Mem, va_D (gA g) (wl g M)) ∧ (∀ w ∈ NW, va_Nw w s) ∧ SZ g s s.heap ∧ meth.locks = false ∧ meth.sig.returnType = rt ∧ R = rmD d
def KW (p : Program) (l : Launch) (e : Env) (R : Room) (s : State) (m : MethodId) (args : Array Value) (below : List Frame) (meth : Method) (c : Code) (g : GT) (nL : Nat) (Q : State → Prop) (M : Mem) (pc : Nat) (lo : List (Nat × Value)) (st : List Value) : Prop :=
  ∀ (H : Heap) (locs : List Loc) (ls : Array Slot), va_P (gD g) vwCl (wl g M) H → va_S (gA g) s.heap H locs → lv_has ls nL lo → W p l e R s m args below meth c H locs 0 0 Q (F0 m pc ls st)
variable {d : Nat}
theorem k_lo {lo' : List (Nat × Value)} (h : lo = lo') (k : KW p l e R s m args below meth c g nL Q M pc lo' st) : KW p l e R s m args below meth c g nL Q M pc lo st := h ▸ k
theorem k_st {st' : List Value} (h : st = st') (k : KW p l e R s m args below meth c g nL Q M pc lo st') : KW p l e R s m args below meth c g nL Q M pc lo st := h ▸ k
theorem k_mem {M' : Mem} (h : M = M') (k : KW p l e R s m args below meth c g nL Q M' pc lo st) : KW p l e R s m args below meth c g nL Q M pc lo st := h ▸ k
theorem k_all {lo' : List (Nat × Value)} {st' : List Value} {M' : Mem} (hM : M = M') (hl : lo = lo') (hs : st = st') (k : KW p l e R s m args below meth c g nL Q M' pc lo' st') : KW p l e R s m args below meth c g nL Q M pc lo st := hM ▸ hl ▸ hs ▸ k
theorem k_sub (lo' : List (Nat × Value)) (ks : List Nat) (h : lv_pick lo ks = lo') (k : KW p l e R s m args below meth c g nL Q M pc lo' st) : KW p l e R s m args below meth c g nL Q M pc lo st := fun H locs ls hP hS hl => k H locs ls hP hS (lv_sub hl ks h)
theorem k_top {x : Int32} (k : ∀ y : Int32, y = x → KW p l e R s m args below meth c g nL Q M pc lo (.int y :: st)) : KW p l e R s m args below meth c g nL Q M pc lo (.int x :: st) := k x rfl
theorem k_teq {x y : Int32} (h : x = y) (k : KW p l e R s m args below meth c g nL Q M pc lo (.int y :: st)) : KW p l e R s m args below meth c g nL Q M pc lo (.int x :: st) := h ▸ k
theorem k_iadd (C : Cx p R s m args meth c g own cc nL rt d) (q : Nat) {x y : Int32} (hd : decode cc pc = .ok (.iadd, 1)) (hq : pc + 1 = q) (k : KW p l e R s m args below meth c g nL Q M q lo (.int (x + y) :: st)) : KW p l e R s m args below meth c g nL Q M pc lo (.int y :: .int x :: st) := by
  subst hq
  exact fun H locs ls hP hS hl => lv_iadd C.1 C.2.1 hd (k H locs ls hP hS hl)
theorem k_isub (C : Cx p R s m args meth c g own cc nL rt d) (q : Nat) {x y : Int32} (hd : decode cc pc = .ok (.isub, 1)) (hq : pc + 1 = q) (k : KW p l e R s m args below meth c g nL Q M q lo (.int (x - y) :: st)) : KW p l e R s m args below meth c g nL Q M pc lo (.int y :: .int x :: st) := by
  subst hq
  exact fun H locs ls hP hS hl => lv_isub C.1 C.2.1 hd (k H locs ls hP hS hl)
theorem k_imul (C : Cx p R s m args meth c g own cc nL rt d) (q : Nat) {x y : Int32} (hd : decode cc pc = .ok (.imul, 1)) (hq : pc + 1 = q) (k : KW p l e R s m args below meth c g nL Q M q lo (.int (x * y) :: st)) : KW p l e R s m args below meth c g nL Q M pc lo (.int y :: .int x :: st) := by
  subst hq
  exact fun H locs ls hP hS hl => lv_imul C.1 C.2.1 hd (k H locs ls hP hS hl)
theorem k_iand (C : Cx p R s m args meth c g own cc nL rt d) (q : Nat) {x y : Int32} (hd : decode cc pc = .ok (.iand, 1)) (hq : pc + 1 = q) (k : KW p l e R s m args below meth c g nL Q M q lo (.int (x &&& y) :: st)) : KW p l e R s m args below meth c g nL Q M pc lo (.int y :: .int x :: st) := by
  subst hq
  exact fun H locs ls hP hS hl => lv_iand C.1 C.2.1 hd (k H locs ls hP hS hl)
theorem k_ior (C : Cx p R s m args meth c g own cc nL rt d) (q : Nat) {x y : Int32} (hd : decode cc pc = .ok (.ior, 1)) (hq : pc + 1 = q) (k : KW p l e R s m args below meth c g nL Q M q lo (.int (x ||| y) :: st)) : KW p l e R s m args below meth c g nL Q M pc lo (.int y :: .int x :: st) := by
  subst hq
  exact fun H locs ls hP hS hl => lv_ior C.1 C.2.1 hd (k H locs ls hP hS hl)
theorem k_ixor (C : Cx p R s m args meth c g own cc nL rt d) (q : Nat) {x y : Int32} (hd : decode cc pc = .ok (.ixor, 1)) (hq : pc + 1 = q) (k : KW p l e R s m args below meth c g nL Q M q lo (.int (x ^^^ y) :: st)) : KW p l e R s m args below meth c g nL Q M pc lo (.int y :: .int x :: st) := by
  subst hq
  exact fun H locs ls hP hS hl => lv_ixor C.1 C.2.1 hd (k H locs ls hP hS hl)
theorem k_ishl (C : Cx p R s m args meth c g own cc nL rt d) (q : Nat) {x y : Int32} (hd : decode cc pc = .ok (.ishl, 1)) (hq : pc + 1 = q) (k : KW p l e R s m args below meth c g nL Q M q lo (.int (x <<< (y &&& 31)) :: st)) : KW p l e R s m args below meth c g nL Q M pc lo (.int y :: .int x :: st) := by
  subst hq
  exact fun H locs ls hP hS hl => lv_ishl C.1 C.2.1 hd (k H locs ls hP hS hl)
theorem k_ishr (C : Cx p R s m args meth c g own cc nL rt d) (q : Nat) {x y : Int32} (hd : decode cc pc = .ok (.ishr, 1)) (hq : pc + 1 = q) (k : KW p l e R s m args below meth c g nL Q M q lo (.int (x >>> (y &&& 31)) :: st)) : KW p l e R s m args below meth c g nL Q M pc lo (.int y :: .int x :: st) := by
  subst hq
  exact fun H locs ls hP hS hl => lv_ishr C.1 C.2.1 hd (k H locs ls hP hS hl)
theorem k_iushr (C : Cx p R s m args meth c g own cc nL rt d) (q : Nat) {x y : Int32} (hd : decode cc pc = .ok (.iushr, 1)) (hq : pc + 1 = q) (k : KW p l e R s m args below meth c g nL Q M q lo (.int (x.toUInt32 >>> (y.toUInt32 &&& Int32.toUInt32 31)).toInt32 :: st)) : KW p l e R s m args below meth c g nL Q M pc lo (.int y :: .int x :: st) := by
  subst hq
  exact fun H locs ls hP hS hl => lv_iushr C.1 C.2.1 hd rfl (k H locs ls hP hS hl)
theorem k_idiv (C : Cx p R s m args meth c g own cc nL rt d) (q : Nat) {x y : Int32} (hne : ¬ y = 0) (hd : decode cc pc = .ok (.idiv, 1)) (hq : pc + 1 = q) (k : KW p l e R s m args below meth c g nL Q M q lo (.int (x / y) :: st)) : KW p l e R s m args below meth c g nL Q M pc lo (.int y :: .int x :: st) := by
  subst hq
  exact fun H locs ls hP hS hl => lv_idiv C.1 C.2.1 hd hne (k H locs ls hP hS hl)
theorem k_irem (C : Cx p R s m args meth c g own cc nL rt d) (q : Nat) {x y : Int32} (hne : ¬ y = 0) (hd : decode cc pc = .ok (.irem, 1)) (hq : pc + 1 = q) (k : KW p l e R s m args below meth c g nL Q M q lo (.int (x - x / y * y) :: st)) : KW p l e R s m args below meth c g nL Q M pc lo (.int y :: .int x :: st) := by
  subst hq
  exact fun H locs ls hP hS hl => lv_irem C.1 C.2.1 hd hne (k H locs ls hP hS hl)
theorem k_ineg (C : Cx p R s m args meth c g own cc nL rt d) (q : Nat) {x : Int32} (hd : decode cc pc = .ok (.ineg, 1)) (hq : pc + 1 = q) (k : KW p l e R s m args below meth c g nL Q M q lo (.int (-x) :: st)) : KW p l e R s m args below meth c g nL Q M pc lo (.int x :: st) := by
  subst hq
  exact fun H locs ls hP hS hl => lv_ineg C.1 C.2.1 hd (k H locs ls hP hS hl)
theorem k_i2b (C : Cx p R s m args meth c g own cc nL rt d) (q : Nat) {x : Int32} (hd : decode cc pc = .ok (.i2b, 1)) (hq : pc + 1 = q) (k : KW p l e R s m args below meth c g nL Q M q lo (.int x.toInt8.toInt32 :: st)) : KW p l e R s m args below meth c g nL Q M pc lo (.int x :: st) := by
  subst hq
  exact fun H locs ls hP hS hl => lv_i2b C.1 C.2.1 hd rfl (k H locs ls hP hS hl)
theorem k_i2s (C : Cx p R s m args meth c g own cc nL rt d) (q : Nat) {x : Int32} (hd : decode cc pc = .ok (.i2s, 1)) (hq : pc + 1 = q) (k : KW p l e R s m args below meth c g nL Q M q lo (.int x.toInt16.toInt32 :: st)) : KW p l e R s m args below meth c g nL Q M pc lo (.int x :: st) := by
  subst hq
  exact fun H locs ls hP hS hl => lv_i2s C.1 C.2.1 hd rfl (k H locs ls hP hS hl)
theorem k_l2i (C : Cx p R s m args meth c g own cc nL rt d) (q : Nat) {x : Int64} (hd : decode cc pc = .ok (.l2i, 1)) (hq : pc + 1 = q) (k : KW p l e R s m args below meth c g nL Q M q lo (.int x.toInt32 :: st)) : KW p l e R s m args below meth c g nL Q M pc lo (.long x :: st) := by
  subst hq
  exact fun H locs ls hP hS hl => lv_l2i C.1 C.2.1 hd rfl (k H locs ls hP hS hl)
theorem k_land (C : Cx p R s m args meth c g own cc nL rt d) (q : Nat) {x y : Int64} (hd : decode cc pc = .ok (.land, 1)) (hq : pc + 1 = q) (k : KW p l e R s m args below meth c g nL Q M q lo (.long (x &&& y) :: st)) : KW p l e R s m args below meth c g nL Q M pc lo (.long y :: .long x :: st) := by
  subst hq
  exact fun H locs ls hP hS hl => lv_land C.1 C.2.1 hd (k H locs ls hP hS hl)
theorem k_lushr (C : Cx p R s m args meth c g own cc nL rt d) (q : Nat) {x : Int64} {y : Int32} (hd : decode cc pc = .ok (.lushr, 1)) (hq : pc + 1 = q) (k : KW p l e R s m args below meth c g nL Q M q lo (.long (x.toUInt64 >>> (y.toInt64.toUInt64 &&& Int64.toUInt64 63)).toInt64 :: st)) : KW p l e R s m args below meth c g nL Q M pc lo (.int y :: .long x :: st) := by
  subst hq
  exact fun H locs ls hP hS hl => lv_lushr C.1 C.2.1 hd rfl (k H locs ls hP hS hl)
theorem k_lshr (C : Cx p R s m args meth c g own cc nL rt d) (q : Nat) {x : Int64} {y : Int32} (hd : decode cc pc = .ok (.lshr, 1)) (hq : pc + 1 = q) (k : KW p l e R s m args below meth c g nL Q M q lo (.long (x >>> (y.toInt64 &&& 63)) :: st)) : KW p l e R s m args below meth c g nL Q M pc lo (.int y :: .long x :: st) := by
  subst hq
  exact fun H locs ls hP hS hl => lv_lshr C.1 C.2.1 hd rfl (k H locs ls hP hS hl)
theorem k_iconst (C : Cx p R s m args meth c g own cc nL rt d) (q : Nat) {n : Int} {v : Int32} (hv : Int32.ofInt n = v) (hd : decode cc pc = .ok (.iconst n, 1)) (hq : pc + 1 = q) (k : KW p l e R s m args below meth c g nL Q M q lo (.int v :: st)) : KW p l e R s m args below meth c g nL Q M pc lo st := by
  subst hq
  exact fun H locs ls hP hS hl => lv_iconst C.1 C.2.1 hd hv (k H locs ls hP hS hl)
theorem k_bipush (C : Cx p R s m args meth c g own cc nL rt d) (q : Nat) {n : Int} {v : Int32} (hv : (Int8.ofInt n).toInt32 = v) (hd : decode cc pc = .ok (.bipush n, 2)) (hq : pc + 2 = q) (k : KW p l e R s m args below meth c g nL Q M q lo (.int v :: st)) : KW p l e R s m args below meth c g nL Q M pc lo st := by
  subst hq
  exact fun H locs ls hP hS hl => lv_bipush C.1 C.2.1 hd hv (k H locs ls hP hS hl)
theorem k_sipush (C : Cx p R s m args meth c g own cc nL rt d) (q : Nat) {n : Int} {v : Int32} (hv : (Int16.ofInt n).toInt32 = v) (hd : decode cc pc = .ok (.sipush n, 3)) (hq : pc + 3 = q) (k : KW p l e R s m args below meth c g nL Q M q lo (.int v :: st)) : KW p l e R s m args below meth c g nL Q M pc lo st := by
  subst hq
  exact fun H locs ls hP hS hl => lv_sipush C.1 C.2.1 hd hv (k H locs ls hP hS hl)
theorem k_ldc (C : Cx p R s m args meth c g own cc nL rt d) (q : Nat) {i : Nat} {v : Int32} (hw : Cond.constant own i v ∈ wA) (hd : decode cc pc = .ok (.ldc i, 2)) (hq : pc + 2 = q) (k : KW p l e R s m args below meth c g nL Q M q lo (.int v :: st)) : KW p l e R s m args below meth c g nL Q M pc lo st := by
  subst hq
  exact fun H locs ls hP hS hl => lv_ldc C.1 C.2.1 C.2.2.2.1 (C.2.2.2.2.1 _ hw) hd (k H locs ls hP hS hl)
theorem k_ldcw (C : Cx p R s m args meth c g own cc nL rt d) (q : Nat) {i : Nat} {v : Int32} (hw : Cond.constant own i v ∈ wA) (hd : decode cc pc = .ok (.ldc_w i, 3)) (hq : pc + 3 = q) (k : KW p l e R s m args below meth c g nL Q M q lo (.int v :: st)) : KW p l e R s m args below meth c g nL Q M pc lo st := by
  subst hq
  exact fun H locs ls hP hS hl => lv_ldcw C.1 C.2.1 C.2.2.2.1 (C.2.2.2.2.1 _ hw) hd (k H locs ls hP hS hl)
theorem k_ldc2 (C : Cx p R s m args meth c g own cc nL rt d) (q : Nat) {i : Nat} {v : Int64} (hw : Cond.constantLong own i v ∈ wA) (hd : decode cc pc = .ok (.ldc2_w i, 3)) (hq : pc + 3 = q) (k : KW p l e R s m args below meth c g nL Q M q lo (.long v :: st)) : KW p l e R s m args below meth c g nL Q M pc lo st := by
  subst hq
  exact fun H locs ls hP hS hl => lv_ldc2 C.1 C.2.1 C.2.2.2.1 (C.2.2.2.2.1 _ hw) hd (k H locs ls hP hS hl)
theorem k_dup (C : Cx p R s m args meth c g own cc nL rt d) (q : Nat) {va : Value} (hc : va.category = 1) (hd : decode cc pc = .ok (.dup, 1)) (hq : pc + 1 = q) (k : KW p l e R s m args below meth c g nL Q M q lo (va :: va :: st)) : KW p l e R s m args below meth c g nL Q M pc lo (va :: st) := by
  subst hq
  exact fun H locs ls hP hS hl => lv_dup C.1 C.2.1 hd hc (k H locs ls hP hS hl)
theorem k_dup2 (C : Cx p R s m args meth c g own cc nL rt d) (q : Nat) {va vb : Value} (hc : va.category = 1) (hc2 : vb.category = 1) (hd : decode cc pc = .ok (.dup2, 1)) (hq : pc + 1 = q) (k : KW p l e R s m args below meth c g nL Q M q lo (va :: vb :: va :: vb :: st)) : KW p l e R s m args below meth c g nL Q M pc lo (va :: vb :: st) := by
  subst hq
  exact fun H locs ls hP hS hl => lv_dup2_11 C.1 C.2.1 hd hc hc2 (k H locs ls hP hS hl)
theorem k_pop (C : Cx p R s m args meth c g own cc nL rt d) (q : Nat) {va : Value} (hc : va.category = 1) (hd : decode cc pc = .ok (.pop, 1)) (hq : pc + 1 = q) (k : KW p l e R s m args below meth c g nL Q M q lo st) : KW p l e R s m args below meth c g nL Q M pc lo (va :: st) := by
  subst hq
  exact fun H locs ls hP hS hl => lv_pop C.1 C.2.1 hd hc (k H locs ls hP hS hl)
theorem k_iload_n (C : Cx p R s m args meth c g own cc nL rt d) (q : Nat) {kn : Fin 4} {i : Nat} {x : Int32} (j : Nat) (hi : (kn : Nat) = i) (hlo : lo[j]? = some (i, .int x)) (hd : decode cc pc = .ok (.iload_n kn, 1)) (hq : pc + 1 = q) (k : KW p l e R s m args below meth c g nL Q M q lo (.int x :: st)) : KW p l e R s m args below meth c g nL Q M pc lo st := by
  subst hq
  exact fun H locs ls hP hS hl => lv_iload_n C.1 C.2.1 hd hi (lv_at hl j hlo) (k H locs ls hP hS hl)
theorem k_aload_n (C : Cx p R s m args meth c g own cc nL rt d) (q : Nat) {kn : Fin 4} {i : Nat} {x : Nat} (j : Nat) (hi : (kn : Nat) = i) (hlo : lo[j]? = some (i, .ref x)) (hd : decode cc pc = .ok (.aload_n kn, 1)) (hq : pc + 1 = q) (k : KW p l e R s m args below meth c g nL Q M q lo (.ref x :: st)) : KW p l e R s m args below meth c g nL Q M pc lo st := by
  subst hq
  exact fun H locs ls hP hS hl => lv_aload_n C.1 C.2.1 hd hi (lv_at hl j hlo) (k H locs ls hP hS hl)
theorem k_lload_n (C : Cx p R s m args meth c g own cc nL rt d) (q : Nat) {kn : Fin 4} {i : Nat} {x : Int64} (j : Nat) (hi : (kn : Nat) = i) (hlo : lo[j]? = some (i, .long x)) (hd : decode cc pc = .ok (.lload_n kn, 1)) (hq : pc + 1 = q) (k : KW p l e R s m args below meth c g nL Q M q lo (.long x :: st)) : KW p l e R s m args below meth c g nL Q M pc lo st := by
  subst hq
  exact fun H locs ls hP hS hl => lv_lload_n C.1 C.2.1 hd hi (lv_at hl j hlo) (k H locs ls hP hS hl)
theorem k_iload (C : Cx p R s m args meth c g own cc nL rt d) (q : Nat) {i : Nat} {x : Int32} (j : Nat) (hlo : lo[j]? = some (i, .int x)) (hd : decode cc pc = .ok (.iload i, 2)) (hq : pc + 2 = q) (k : KW p l e R s m args below meth c g nL Q M q lo (.int x :: st)) : KW p l e R s m args below meth c g nL Q M pc lo st := by
  subst hq
  exact fun H locs ls hP hS hl => lv_iload C.1 C.2.1 hd (lv_at hl j hlo) (k H locs ls hP hS hl)
theorem k_istore_n (C : Cx p R s m args meth c g own cc nL rt d) (q : Nat) {kn : Fin 4} {i : Nat} {x : Int32} (lo2 : List (Nat × Value)) (hi : (kn : Nat) = i) (hn : i < nL) (hlo : (i, Value.int x) :: lo.filter (fun q => !(q.1 == i) && !(q.1 + 1 == i && q.2.category == 2)) = lo2) (hd : decode cc pc = .ok (.istore_n kn, 1)) (hq : pc + 1 = q) (k : KW p l e R s m args below meth c g nL Q M q lo2 st) : KW p l e R s m args below meth c g nL Q M pc lo (.int x :: st) := by
  subst hq
  exact fun H locs ls hP hS hl => lv_istore_n C.1 C.2.1 hd hi hl hn hlo (fun ls2 hl2 => k H locs ls2 hP hS hl2)
theorem k_istore (C : Cx p R s m args meth c g own cc nL rt d) (q : Nat) {i : Nat} {x : Int32} (lo2 : List (Nat × Value)) (hn : i < nL) (hlo : (i, Value.int x) :: lo.filter (fun q => !(q.1 == i) && !(q.1 + 1 == i && q.2.category == 2)) = lo2) (hd : decode cc pc = .ok (.istore i, 2)) (hq : pc + 2 = q) (k : KW p l e R s m args below meth c g nL Q M q lo2 st) : KW p l e R s m args below meth c g nL Q M pc lo (.int x :: st) := by
  subst hq
  exact fun H locs ls hP hS hl => lv_istore C.1 C.2.1 hd hl hn hlo (fun ls2 hl2 => k H locs ls2 hP hS hl2)
theorem k_aload (C : Cx p R s m args meth c g own cc nL rt d) (q : Nat) {i : Nat} {x : Nat} (j : Nat) (hlo : lo[j]? = some (i, .ref x)) (hd : decode cc pc = .ok (.aload i, 2)) (hq : pc + 2 = q) (k : KW p l e R s m args below meth c g nL Q M q lo (.ref x :: st)) : KW p l e R s m args below meth c g nL Q M pc lo st := by
  subst hq
  exact fun H locs ls hP hS hl => lv_aload C.1 C.2.1 hd (lv_at hl j hlo) (k H locs ls hP hS hl)
theorem k_astore_n (C : Cx p R s m args meth c g own cc nL rt d) (q : Nat) {kn : Fin 4} {i : Nat} {x : Nat} (lo2 : List (Nat × Value)) (hi : (kn : Nat) = i) (hn : i < nL) (hlo : (i, Value.ref x) :: lo.filter (fun q => !(q.1 == i) && !(q.1 + 1 == i && q.2.category == 2)) = lo2) (hd : decode cc pc = .ok (.astore_n kn, 1)) (hq : pc + 1 = q) (k : KW p l e R s m args below meth c g nL Q M q lo2 st) : KW p l e R s m args below meth c g nL Q M pc lo (.ref x :: st) := by
  subst hq
  exact fun H locs ls hP hS hl => lv_astore_n C.1 C.2.1 hd hi hl hn hlo (fun ls2 hl2 => k H locs ls2 hP hS hl2)
theorem k_astore (C : Cx p R s m args meth c g own cc nL rt d) (q : Nat) {i : Nat} {x : Nat} (lo2 : List (Nat × Value)) (hn : i < nL) (hlo : (i, Value.ref x) :: lo.filter (fun q => !(q.1 == i) && !(q.1 + 1 == i && q.2.category == 2)) = lo2) (hd : decode cc pc = .ok (.astore i, 2)) (hq : pc + 2 = q) (k : KW p l e R s m args below meth c g nL Q M q lo2 st) : KW p l e R s m args below meth c g nL Q M pc lo (.ref x :: st) := by
  subst hq
  exact fun H locs ls hP hS hl => lv_astore C.1 C.2.1 hd hl hn hlo (fun ls2 hl2 => k H locs ls2 hP hS hl2)
theorem k_iinc (C : Cx p R s m args meth c g own cc nL rt d) (q : Nat) {i : Nat} {n : Int} {x : Int32} (v : Int32) (j : Nat) (lo2 : List (Nat × Value)) (hj : lo[j]? = some (i, .int x)) (hv : x + Int32.ofInt n = v) (hn : i < nL) (hlo : (i, Value.int v) :: lo.filter (fun q => !(q.1 == i) && !(q.1 + 1 == i && q.2.category == 2)) = lo2) (hd : decode cc pc = .ok (.iinc i n, 3)) (hq : pc + 3 = q) (k : KW p l e R s m args below meth c g nL Q M q lo2 st) : KW p l e R s m args below meth c g nL Q M pc lo st := by
  subst hq
  exact fun H locs ls hP hS hl => lv_iinc C.1 C.2.1 hd hl hj hv hn hlo (fun ls2 hl2 => k H locs ls2 hP hS hl2)
theorem k_if_eq (C : Cx p R s m args meth c g own cc nL rt d) (tgt q : Nat) {x : Int32} {off : Int} (hd : decode cc pc = .ok (.ifCond .eq off, 3)) (ht : (pc : Int) + off = (tgt : Int)) (hq : pc + 3 = q) (kt : x = 0 → KW p l e R s m args below meth c g nL Q M tgt lo st) (kf : ¬ (x = 0) → KW p l e R s m args below meth c g nL Q M q lo st) : KW p l e R s m args below meth c g nL Q M pc lo (.int x :: st) := by
  subst hq
  exact fun H locs ls hP hS hl => lv_if_eq C.1 C.2.1 hd ht (fun h => kt h H locs ls hP hS hl) (fun h => kf h H locs ls hP hS hl)
theorem k_icmp_eq (C : Cx p R s m args meth c g own cc nL rt d) (tgt q : Nat) {x y : Int32} {off : Int} (hd : decode cc pc = .ok (.if_icmp .eq off, 3)) (ht : (pc : Int) + off = (tgt : Int)) (hq : pc + 3 = q) (kt : x = y → KW p l e R s m args below meth c g nL Q M tgt lo st) (kf : ¬ (x = y) → KW p l e R s m args below meth c g nL Q M q lo st) : KW p l e R s m args below meth c g nL Q M pc lo (.int y :: .int x :: st) := by
  subst hq
  exact fun H locs ls hP hS hl => lv_icmp_eq C.1 C.2.1 hd ht (fun h => kt h H locs ls hP hS hl) (fun h => kf h H locs ls hP hS hl)
theorem k_if_ne (C : Cx p R s m args meth c g own cc nL rt d) (tgt q : Nat) {x : Int32} {off : Int} (hd : decode cc pc = .ok (.ifCond .ne off, 3)) (ht : (pc : Int) + off = (tgt : Int)) (hq : pc + 3 = q) (kt : ¬ x = 0 → KW p l e R s m args below meth c g nL Q M tgt lo st) (kf : x = 0 → KW p l e R s m args below meth c g nL Q M q lo st) : KW p l e R s m args below meth c g nL Q M pc lo (.int x :: st) := by
  subst hq
  exact fun H locs ls hP hS hl => lv_if_ne C.1 C.2.1 hd ht (fun h => kt h H locs ls hP hS hl) (fun h => kf h H locs ls hP hS hl)
theorem k_icmp_ne (C : Cx p R s m args meth c g own cc nL rt d) (tgt q : Nat) {x y : Int32} {off : Int} (hd : decode cc pc = .ok (.if_icmp .ne off, 3)) (ht : (pc : Int) + off = (tgt : Int)) (hq : pc + 3 = q) (kt : ¬ x = y → KW p l e R s m args below meth c g nL Q M tgt lo st) (kf : x = y → KW p l e R s m args below meth c g nL Q M q lo st) : KW p l e R s m args below meth c g nL Q M pc lo (.int y :: .int x :: st) := by
  subst hq
  exact fun H locs ls hP hS hl => lv_icmp_ne C.1 C.2.1 hd ht (fun h => kt h H locs ls hP hS hl) (fun h => kf h H locs ls hP hS hl)
theorem k_if_lt (C : Cx p R s m args meth c g own cc nL rt d) (tgt q : Nat) {x : Int32} {off : Int} (hd : decode cc pc = .ok (.ifCond .lt off, 3)) (ht : (pc : Int) + off = (tgt : Int)) (hq : pc + 3 = q) (kt : x < 0 → KW p l e R s m args below meth c g nL Q M tgt lo st) (kf : ¬ (x < 0) → KW p l e R s m args below meth c g nL Q M q lo st) : KW p l e R s m args below meth c g nL Q M pc lo (.int x :: st) := by
  subst hq
  exact fun H locs ls hP hS hl => lv_if_lt C.1 C.2.1 hd ht (fun h => kt h H locs ls hP hS hl) (fun h => kf h H locs ls hP hS hl)
theorem k_icmp_lt (C : Cx p R s m args meth c g own cc nL rt d) (tgt q : Nat) {x y : Int32} {off : Int} (hd : decode cc pc = .ok (.if_icmp .lt off, 3)) (ht : (pc : Int) + off = (tgt : Int)) (hq : pc + 3 = q) (kt : x < y → KW p l e R s m args below meth c g nL Q M tgt lo st) (kf : ¬ (x < y) → KW p l e R s m args below meth c g nL Q M q lo st) : KW p l e R s m args below meth c g nL Q M pc lo (.int y :: .int x :: st) := by
  subst hq
  exact fun H locs ls hP hS hl => lv_icmp_lt C.1 C.2.1 hd ht (fun h => kt h H locs ls hP hS hl) (fun h => kf h H locs ls hP hS hl)
theorem k_if_ge (C : Cx p R s m args meth c g own cc nL rt d) (tgt q : Nat) {x : Int32} {off : Int} (hd : decode cc pc = .ok (.ifCond .ge off, 3)) (ht : (pc : Int) + off = (tgt : Int)) (hq : pc + 3 = q) (kt : 0 ≤ x → KW p l e R s m args below meth c g nL Q M tgt lo st) (kf : ¬ (0 ≤ x) → KW p l e R s m args below meth c g nL Q M q lo st) : KW p l e R s m args below meth c g nL Q M pc lo (.int x :: st) := by
  subst hq
  exact fun H locs ls hP hS hl => lv_if_ge C.1 C.2.1 hd ht (fun h => kt h H locs ls hP hS hl) (fun h => kf h H locs ls hP hS hl)
theorem k_icmp_ge (C : Cx p R s m args meth c g own cc nL rt d) (tgt q : Nat) {x y : Int32} {off : Int} (hd : decode cc pc = .ok (.if_icmp .ge off, 3)) (ht : (pc : Int) + off = (tgt : Int)) (hq : pc + 3 = q) (kt : y ≤ x → KW p l e R s m args below meth c g nL Q M tgt lo st) (kf : ¬ (y ≤ x) → KW p l e R s m args below meth c g nL Q M q lo st) : KW p l e R s m args below meth c g nL Q M pc lo (.int y :: .int x :: st) := by
  subst hq
  exact fun H locs ls hP hS hl => lv_icmp_ge C.1 C.2.1 hd ht (fun h => kt h H locs ls hP hS hl) (fun h => kf h H locs ls hP hS hl)
theorem k_if_gt (C : Cx p R s m args meth c g own cc nL rt d) (tgt q : Nat) {x : Int32} {off : Int} (hd : decode cc pc = .ok (.ifCond .gt off, 3)) (ht : (pc : Int) + off = (tgt : Int)) (hq : pc + 3 = q) (kt : 0 < x → KW p l e R s m args below meth c g nL Q M tgt lo st) (kf : ¬ (0 < x) → KW p l e R s m args below meth c g nL Q M q lo st) : KW p l e R s m args below meth c g nL Q M pc lo (.int x :: st) := by
  subst hq
  exact fun H locs ls hP hS hl => lv_if_gt C.1 C.2.1 hd ht (fun h => kt h H locs ls hP hS hl) (fun h => kf h H locs ls hP hS hl)
theorem k_icmp_gt (C : Cx p R s m args meth c g own cc nL rt d) (tgt q : Nat) {x y : Int32} {off : Int} (hd : decode cc pc = .ok (.if_icmp .gt off, 3)) (ht : (pc : Int) + off = (tgt : Int)) (hq : pc + 3 = q) (kt : y < x → KW p l e R s m args below meth c g nL Q M tgt lo st) (kf : ¬ (y < x) → KW p l e R s m args below meth c g nL Q M q lo st) : KW p l e R s m args below meth c g nL Q M pc lo (.int y :: .int x :: st) := by
  subst hq
  exact fun H locs ls hP hS hl => lv_icmp_gt C.1 C.2.1 hd ht (fun h => kt h H locs ls hP hS hl) (fun h => kf h H locs ls hP hS hl)
theorem k_if_le (C : Cx p R s m args meth c g own cc nL rt d) (tgt q : Nat) {x : Int32} {off : Int} (hd : decode cc pc = .ok (.ifCond .le off, 3)) (ht : (pc : Int) + off = (tgt : Int)) (hq : pc + 3 = q) (kt : x ≤ 0 → KW p l e R s m args below meth c g nL Q M tgt lo st) (kf : ¬ (x ≤ 0) → KW p l e R s m args below meth c g nL Q M q lo st) : KW p l e R s m args below meth c g nL Q M pc lo (.int x :: st) := by
  subst hq
  exact fun H locs ls hP hS hl => lv_if_le C.1 C.2.1 hd ht (fun h => kt h H locs ls hP hS hl) (fun h => kf h H locs ls hP hS hl)
theorem k_icmp_le (C : Cx p R s m args meth c g own cc nL rt d) (tgt q : Nat) {x y : Int32} {off : Int} (hd : decode cc pc = .ok (.if_icmp .le off, 3)) (ht : (pc : Int) + off = (tgt : Int)) (hq : pc + 3 = q) (kt : x ≤ y → KW p l e R s m args below meth c g nL Q M tgt lo st) (kf : ¬ (x ≤ y) → KW p l e R s m args below meth c g nL Q M q lo st) : KW p l e R s m args below meth c g nL Q M pc lo (.int y :: .int x :: st) := by
  subst hq
  exact fun H locs ls hP hS hl => lv_icmp_le C.1 C.2.1 hd ht (fun h => kt h H locs ls hP hS hl) (fun h => kf h H locs ls hP hS hl)
theorem k_if_eqB (C : Cx p R s m args meth c g own cc nL rt d) (tgt q : Nat) {b : Bool} {off : Int} (hd : decode cc pc = .ok (.ifCond .eq off, 3)) (ht : (pc : Int) + off = (tgt : Int)) (hq : pc + 3 = q) (kt : b = false → KW p l e R s m args below meth c g nL Q M tgt lo st) (kf : b = true → KW p l e R s m args below meth c g nL Q M q lo st) : KW p l e R s m args below meth c g nL Q M pc lo (.int (b2i b) :: st) := by
  subst hq
  exact fun H locs ls hP hS hl => lv_if_eq C.1 C.2.1 hd ht (fun h => kt (by cases b; rfl; exact absurd h (by decide)) H locs ls hP hS hl) (fun h => kf (by cases b; exact absurd rfl h; rfl) H locs ls hP hS hl)
theorem k_if_neB (C : Cx p R s m args meth c g own cc nL rt d) (tgt q : Nat) {b : Bool} {off : Int} (hd : decode cc pc = .ok (.ifCond .ne off, 3)) (ht : (pc : Int) + off = (tgt : Int)) (hq : pc + 3 = q) (kt : b = true → KW p l e R s m args below meth c g nL Q M tgt lo st) (kf : b = false → KW p l e R s m args below meth c g nL Q M q lo st) : KW p l e R s m args below meth c g nL Q M pc lo (.int (b2i b) :: st) := by
  subst hq
  exact fun H locs ls hP hS hl => lv_if_ne C.1 C.2.1 hd ht (fun h => kt (by cases b; exact absurd rfl h; rfl) H locs ls hP hS hl) (fun h => kf (by cases b; rfl; exact absurd h (by decide)) H locs ls hP hS hl)
theorem k_goto (C : Cx p R s m args meth c g own cc nL rt d) (tgt : Nat) {off : Int} (hd : decode cc pc = .ok (.goto off, 3)) (ht : (pc : Int) + off = (tgt : Int)) (k : KW p l e R s m args below meth c g nL Q M tgt lo st) : KW p l e R s m args below meth c g nL Q M pc lo st := fun H locs ls hP hS hl => lv_goto C.1 C.2.1 hd ht (k H locs ls hP hS hl)
theorem k_tin (C : Cx p R s m args meth c g own cc nL rt d) (tgt : Nat) {dflt lw hi : Int} {offs : Array Int} {len : Nat} {x : Int32} {off : Int} (h1 : ¬ x.toInt < lw) (h2 : ¬ hi < x.toInt) (ho : offs[(x.toInt - lw).toNat]? = some off) (hd : decode cc pc = .ok (.tableswitch dflt lw hi offs, len)) (ht : (pc : Int) + off = (tgt : Int)) (k : KW p l e R s m args below meth c g nL Q M tgt lo st) : KW p l e R s m args below meth c g nL Q M pc lo (.int x :: st) := fun H locs ls hP hS hl => lv_tableIn C.1 C.2.1 hd h1 h2 ho ht (k H locs ls hP hS hl)
theorem k_tout (C : Cx p R s m args meth c g own cc nL rt d) (tgt : Nat) {dflt lw hi : Int} {offs : Array Int} {len : Nat} {x : Int32} (h1 : x.toInt < lw ∨ hi < x.toInt) (hd : decode cc pc = .ok (.tableswitch dflt lw hi offs, len)) (ht : (pc : Int) + dflt = (tgt : Int)) (k : KW p l e R s m args below meth c g nL Q M tgt lo st) : KW p l e R s m args below meth c g nL Q M pc lo (.int x :: st) := fun H locs ls hP hS hl => lv_tableOut C.1 C.2.1 hd h1 ht (k H locs ls hP hS hl)
theorem k_look (C : Cx p R s m args meth c g own cc nL rt d) (tgt : Nat) {dflt : Int} {ps : Array (Int × Int)} {len : Nat} {x : Int32} {off : Int} (hp : (ps.toList.zip (ps.toList.drop 1)).all (fun (a, next) => a.1 < next.1) = true) (ho : Op.lookupswitch.offset ps.toList dflt x.toInt = off) (hd : decode cc pc = .ok (.lookupswitch dflt ps, len)) (ht : (pc : Int) + off = (tgt : Int)) (k : KW p l e R s m args below meth c g nL Q M tgt lo st) : KW p l e R s m args below meth c g nL Q M pc lo (.int x :: st) := fun H locs ls hP hS hl => lv_lookup C.1 C.2.1 hd hp ho ht (k H locs ls hP hS hl)
theorem k_get (C : Cx p R s m args meth c g own cc nL rt d) (q : Nat) {idx ci j N : Nat} {C' : String} {T : u_T} (F : FLk own idx ci j C' T N) (k0 : Nat) (hk : k0 < 105) {fs : List Value} {v : Value} (he : cE g k0 (M k0) = .inr (ci, fs)) (hv : fs[j]? = some v) (hd : decode cc pc = .ok (.getfield idx, 3)) (hq : pc + 3 = q) (k : KW p l e R s m args below meth c g nL Q M q lo (v :: st)) : KW p l e R s m args below meth c g nL Q M pc lo (.ref (ga g k0) :: st) := by
  subst hq
  exact fun H locs ls hP hS hl => va_get C.1 C.2.1 C.2.2.2.2.1 F.2.1 C.2.2.2.1 C.2.2.2.2.2.1 hP k0 (by rw [wl_get g M hk, he]) F.1 j F.2.2.1 (C.2.2.2.2.1 _ F.2.2.2) (fun _ h => h) hv hd (k H locs ls hP hS hl)
theorem k_putr (C : Cx p R s m args meth c g own cc nL rt d) (q : Nat) {idx ci j N : Nat} {C' : String} {T : u_T} {ty : Nat → FieldType} (F : FLk own idx ci j C' T N) (PL : PLk C' T N ty) (k0 : Nat) (hk : k0 < 105) {fs : List Value} {v : Value} (f' : Nat → Int32) (he : cE g k0 (M k0) = .inr (ci, fs)) (he' : cE g k0 f' = .inr (ci, fs.set j v)) (hl0 : j < fs.length) (hfin : (T j).2.2.2 = false) (hn : narrow (ty j) v = v) (hfit : fits (ty j) v = true) (hd : decode cc pc = .ok (.putfield idx, 3)) (hq : pc + 3 = q) (k : KW p l e R s m args below meth c g nL Q (mrow M k0 f') q lo st) : KW p l e R s m args below meth c g nL Q M pc lo (v :: .ref (ga g k0) :: st) := by
  subst hq
  intro H locs ls hP hS hl
  refine va_put C.1 C.2.1 C.2.2.2.2.1 F.2.1 ty PL.1 PL.2 C.2.2.2.1 C.2.2.2.2.2.1 hP (C.2.2.2.2.2.2.1 M) hS k0 (by rw [wl_get g M hk, he]) F.1 j F.2.2.1 (C.2.2.2.2.1 _ F.2.2.2) (fun _ h => h) hfin (PL.1 j F.2.2.1) hn hfit hl0 hd (fun H1 locs1 hP1 _ hS1 => ?_)
  rw [wl_set g M hk he'] at hP1
  exact k H1 locs1 ls hP1 hS1 hl
theorem k_put (C : Cx p R s m args meth c g own cc nL rt d) (q : Nat) {idx ci j N : Nat} {C' : String} {T : u_T} {ty : Nat → FieldType} (F : FLk own idx ci j C' T N) (PL : PLk C' T N ty) (k0 : Nat) (hk : k0 < 105) {fs : List Value} {x : Int32} (he : cE g k0 (M k0) = .inr (ci, fs)) (he' : cE g k0 (upd (M k0) j x) = .inr (ci, fs.set j (.int x))) (hl0 : j < fs.length) (hfin : (T j).2.2.2 = false) (hn : narrow (ty j) (.int x) = .int x) (hfit : fits (ty j) (.int x) = true) (hd : decode cc pc = .ok (.putfield idx, 3)) (hq : pc + 3 = q) (k : KW p l e R s m args below meth c g nL Q (mu M k0 j x) q lo st) : KW p l e R s m args below meth c g nL Q M pc lo (.int x :: .ref (ga g k0) :: st) :=
  k_putr C q F PL k0 hk (upd (M k0) j x) he he' hl0 hfin hn hfit hd hq k
theorem k_iald (C : Cx p R s m args meth c g own cc nL rt d) (q : Nat) (k0 i : Nat) {n : Nat} {x : Int32} (hk : k0 < 105) (he : ∀ f, cE g k0 f = .inl (gC g 0, n, .inl f)) (hn : n < 2000) (hx : x = nI i) (hi : i < n) (hd : decode cc pc = .ok (.iaload, 1)) (hq : pc + 1 = q) (k : KW p l e R s m args below meth c g nL Q M q lo (.int (M k0 i) :: st)) : KW p l e R s m args below meth c g nL Q M pc lo (.int x :: .ref (ga g k0) :: st) := by
  subst hq; subst hx
  intro H locs ls hP hS hl
  refine va_iald C.1 C.2.1 C.2.2.2.2.2.1 hP k0 0 (by rw [wl_get g M hk, he]) rfl (vp_in_nI hi (by omega)) hd ?_
  rw [nI_clamp (by omega)]
  exact k H locs ls hP hS hl
theorem k_bald (C : Cx p R s m args meth c g own cc nL rt d) (q : Nat) (k0 i : Nat) {n : Nat} {x : Int32} (hk : k0 < 105) (he : ∀ f, cE g k0 f = .inl (gC g 1, n, .inl f)) (hn : n < 2000) (hx : x = nI i) (hi : i < n) (hd : decode cc pc = .ok (.baload, 1)) (hq : pc + 1 = q) (k : KW p l e R s m args below meth c g nL Q M q lo (.int (M k0 i) :: st)) : KW p l e R s m args below meth c g nL Q M pc lo (.int x :: .ref (ga g k0) :: st) := by
  subst hq; subst hx
  intro H locs ls hP hS hl
  refine va_bald C.1 C.2.1 C.2.2.2.2.2.1 hP k0 1 (by rw [wl_get g M hk, he]) rfl (vp_in_nI hi (by omega)) hd ?_
  rw [nI_clamp (by omega)]
  exact k H locs ls hP hS hl
theorem k_zald (C : Cx p R s m args meth c g own cc nL rt d) (q : Nat) (k0 i : Nat) {n : Nat} {x : Int32} (hk : k0 < 105) (he : ∀ f, cE g k0 f = .inl (gC g 2, n, .inl f)) (hn : n < 2000) (hx : x = nI i) (hi : i < n) (hd : decode cc pc = .ok (.baload, 1)) (hq : pc + 1 = q) (k : KW p l e R s m args below meth c g nL Q M q lo (.int (M k0 i) :: st)) : KW p l e R s m args below meth c g nL Q M pc lo (.int x :: .ref (ga g k0) :: st) := by
  subst hq; subst hx
  intro H locs ls hP hS hl
  refine va_zald C.1 C.2.1 C.2.2.2.2.2.1 hP k0 2 (by rw [wl_get g M hk, he]) rfl (vp_in_nI hi (by omega)) hd ?_
  rw [nI_clamp (by omega)]
  exact k H locs ls hP hS hl
theorem k_iast (C : Cx p R s m args meth c g own cc nL rt d) (q : Nat) (k0 i : Nat) {n : Nat} {x y : Int32} (hk : k0 < 105) (he : ∀ f, cE g k0 f = .inl (gC g 0, n, .inl f)) (hn : n < 2000) (hx : x = nI i) (hi : i < n) (hd : decode cc pc = .ok (.iastore, 1)) (hq : pc + 1 = q) (k : KW p l e R s m args below meth c g nL Q (mu M k0 i y) q lo st) : KW p l e R s m args below meth c g nL Q M pc lo (.int y :: .int x :: .ref (ga g k0) :: st) := by
  subst hq; subst hx
  intro H locs ls hP hS hl
  refine va_iast C.1 C.2.1 C.2.2.2.2.2.1 hP (C.2.2.2.2.2.2.1 M) hS k0 0 (by rw [wl_get g M hk, he]) rfl (vp_in_nI hi (by omega)) hd (fun H1 locs1 hP1 _ hS1 => ?_)
  rw [nI_clamp (by omega), wl_set g M hk (he _)] at hP1
  exact k H1 locs1 ls hP1 hS1 hl
theorem k_bast (C : Cx p R s m args meth c g own cc nL rt d) (q : Nat) (k0 i : Nat) {n : Nat} {x y : Int32} (hk : k0 < 105) (he : ∀ f, cE g k0 f = .inl (gC g 1, n, .inl f)) (hn : n < 2000) (hx : x = nI i) (hi : i < n) (hd : decode cc pc = .ok (.bastore, 1)) (hq : pc + 1 = q) (k : KW p l e R s m args below meth c g nL Q (mu M k0 i (vp_nar .byte y)) q lo st) : KW p l e R s m args below meth c g nL Q M pc lo (.int y :: .int x :: .ref (ga g k0) :: st) := by
  subst hq; subst hx
  intro H locs ls hP hS hl
  refine va_bast C.1 C.2.1 C.2.2.2.2.2.1 hP (C.2.2.2.2.2.2.1 M) hS k0 1 (by rw [wl_get g M hk, he]) rfl (vp_in_nI hi (by omega)) hd (fun H1 locs1 hP1 _ hS1 => ?_)
  rw [nI_clamp (by omega), wl_set g M hk (he _)] at hP1
  exact k H1 locs1 ls hP1 hS1 hl
theorem k_zast (C : Cx p R s m args meth c g own cc nL rt d) (q : Nat) (k0 i : Nat) {n : Nat} {x y : Int32} (hk : k0 < 105) (he : ∀ f, cE g k0 f = .inl (gC g 2, n, .inl f)) (hn : n < 2000) (hx : x = nI i) (hi : i < n) (hd : decode cc pc = .ok (.bastore, 1)) (hq : pc + 1 = q) (k : KW p l e R s m args below meth c g nL Q (mu M k0 i (vp_nar .boolean y)) q lo st) : KW p l e R s m args below meth c g nL Q M pc lo (.int y :: .int x :: .ref (ga g k0) :: st) := by
  subst hq; subst hx
  intro H locs ls hP hS hl
  refine va_zast C.1 C.2.1 C.2.2.2.2.2.1 hP (C.2.2.2.2.2.2.1 M) hS k0 2 (by rw [wl_get g M hk, he]) rfl (vp_in_nI hi (by omega)) hd (fun H1 locs1 hP1 _ hS1 => ?_)
  rw [nI_clamp (by omega), wl_set g M hk (he _)] at hP1
  exact k H1 locs1 ls hP1 hS1 hl
theorem k_aald (C : Cx p R s m args meth c g own cc nL rt d) (q : Nat) (k0 i t0 : Nat) {cA : ClassId} {C' : String} {n : Nat} {h : Nat → Nat} {x : Int32} (hk : k0 < 105) (he : cE g k0 (M k0) = .inl (cA, n, rfs (fun j => ga g (h j)))) (ht : (tysG g)[t0]? = some (cA, .object C')) (hn : n < 2000) (hx : x = nI i) (hi : i < n) (hd : decode cc pc = .ok (.aaload, 1)) (hq : pc + 1 = q) (k : KW p l e R s m args below meth c g nL Q M q lo (.ref (ga g (h i)) :: st)) : KW p l e R s m args below meth c g nL Q M pc lo (.int x :: .ref (ga g k0) :: st) := by
  subst hq; subst hx
  intro H locs ls hP hS hl
  refine va_aldq C.1 C.2.1 C.2.2.2.2.2.1 hP k0 t0 (by rw [wl_get g M hk, he]) ht (vp_in_nI hi (by omega)) hd ?_
  rw [nI_clamp (by omega)]
  exact k H locs ls hP hS hl
theorem k_alen (C : Cx p R s m args meth c g own cc nL rt d) (q : Nat) (k0 t0 : Nat) {cA : ClassId} {a : vp_A} {ty : FieldType} {v : Int32} (hk : k0 < 105) (he : cE g k0 (M k0) = .inl (cA, a)) (ht : (tysG g)[t0]? = some (cA, ty)) (hv : Int32.ofNat a.1 = v) (hd : decode cc pc = .ok (.arraylength, 1)) (hq : pc + 1 = q) (k : KW p l e R s m args below meth c g nL Q M q lo (.int v :: st)) : KW p l e R s m args below meth c g nL Q M pc lo (.ref (ga g k0) :: st) := by
  subst hq
  exact fun H locs ls hP hS hl => va_alen C.1 C.2.1 C.2.2.2.2.2.1 hP k0 t0 (by rw [wl_get g M hk, he]) ht hv hd (k H locs ls hP hS hl)
theorem k_kab (C : Cx p R s m args meth c g own cc nL rt d) (q : Nat) {idx : Nat} (hw : Cond.fieldLinkNest own idx "FurrowTalk" "KIND_ABOVE" "[I" "FurrowTalk" ∈ NW) (hd : decode cc pc = .ok (.getstatic idx, 3)) (hq : pc + 3 = q) (k : KW p l e R s m args below meth c g nL Q M q lo (.ref (ga g 105) :: st)) : KW p l e R s m args below meth c g nL Q M pc lo st := by
  subst hq
  exact fun H locs ls hP hS hl => va_getsN C.1 C.2.1 C.2.2.2.2.2.2.2.2.1.1 hS C.2.2.2.1 (va_Nw.use rfl (C.2.2.2.2.2.2.2.1 _ hw)) (fun _ h => h) hd (k H locs ls hP hS hl)
theorem k_nms (C : Cx p R s m args meth c g own cc nL rt d) (q : Nat) {idx : Nat} (hw : Cond.fieldLink own idx "FurrowTalk$TextReader" "NAMES" "[C" ∈ wA) (hd : decode cc pc = .ok (.getstatic idx, 3)) (hq : pc + 3 = q) (k : KW p l e R s m args below meth c g nL Q M q lo (.ref (ga g 106) :: st)) : KW p l e R s m args below meth c g nL Q M pc lo st := by
  subst hq
  exact fun H locs ls hP hS hl => va_gets C.1 C.2.1 C.2.2.2.2.2.2.2.2.1.2.2.1 hS C.2.2.2.1 (C.2.2.2.2.1 _ hw) (fun _ h => h) hd (k H locs ls hP hS hl)
theorem k_kabl (C : Cx p R s m args meth c g own cc nL rt d) (q : Nat) (i : Nat) {x v : Int32} (hx : x = nI i) (hi : i < 7) (hv : f105 i = .int v) (hd : decode cc pc = .ok (.iaload, 1)) (hq : pc + 1 = q) (k : KW p l e R s m args below meth c g nL Q M q lo (.int v :: st)) : KW p l e R s m args below meth c g nL Q M pc lo (.int x :: .ref (ga g 105) :: st) := by
  subst hq; subst hx
  exact fun H locs ls hP hS hl => va_ti C.1 C.2.1 C.2.2.2.2.2.2.2.2.1.2.1 hS (vp_in_nI hi (by decide)) (by rw [nI_clamp (by omega)]; exact hv) hd (k H locs ls hP hS hl)
theorem k_nmsl (C : Cx p R s m args meth c g own cc nL rt d) (q : Nat) (i : Nat) {x v : Int32} (hx : x = nI i) (hi : i < 6) (hv : f106 i = .int v) (hd : decode cc pc = .ok (.caload, 1)) (hq : pc + 1 = q) (k : KW p l e R s m args below meth c g nL Q M q lo (.int v :: st)) : KW p l e R s m args below meth c g nL Q M pc lo (.int x :: .ref (ga g 106) :: st) := by
  subst hq; subst hx
  exact fun H locs ls hP hS hl => va_tc C.1 C.2.1 C.2.2.2.2.2.2.2.2.1.2.2.2 hS (vp_in_nI hi (by decide)) (by rw [nI_clamp (by omega)]; exact hv) hd (k H locs ls hP hS hl)
theorem k_mmax (C : Cx p R s m args meth c g own cc nL rt d) (q : Nat) {idx : Nat} {x y : Int32} (hw : Cond.methodLink own idx Lib.Math.max.name ∈ wA ∧ Cond.static Lib.Math.max.name ∈ wA ∧ Cond.initialized "java/lang/Math" ∈ wA ∧ Cond.code Lib.Math.max.name Lib.Math.max.code 2 (some .int) ∈ wA) (hr : (st.map fun v => v.category).sum ≤ 8) (hd : decode cc pc = .ok (.invokestatic idx, 3)) (hq : pc + 3 = q) (k : KW p l e R s m args below meth c g nL Q M q lo (.int (if x < y then y else x) :: st)) : KW p l e R s m args below meth c g nL Q M pc lo (.int y :: .int x :: st) := by
  subst hq
  intro H locs ls hP hS hl
  have hR := C.2.2.2.2.2.2.2.2.2.2.2
  refine va_mmax C.1 C.2.1 (C.2.2.1.trans hl.1.symm) C.2.2.2.1 (C.2.2.2.2.1 _ hw.1) (C.2.2.2.2.1 _ hw.2.1) (C.2.2.2.2.1 _ hw.2.2.1) (C.2.2.2.2.1 _ hw.2.2.2) ?_ ?_ (by rw [hR]; exact Nat.le_refl 0) (by rw [hR]; exact Nat.le_refl 0) hd (k H locs ls hP hS hl)
  · rw [hR]; show 1 ≤ d + 1; omega
  · rw [hR]; show _ ≤ 48 * d + 48; omega
theorem k_mmin (C : Cx p R s m args meth c g own cc nL rt d) (q : Nat) {idx : Nat} {x y : Int32} (hw : Cond.methodLink own idx Lib.Math.min.name ∈ wA ∧ Cond.static Lib.Math.min.name ∈ wA ∧ Cond.initialized "java/lang/Math" ∈ wA ∧ Cond.code Lib.Math.min.name Lib.Math.min.code 2 (some .int) ∈ wA) (hr : (st.map fun v => v.category).sum ≤ 8) (hd : decode cc pc = .ok (.invokestatic idx, 3)) (hq : pc + 3 = q) (k : KW p l e R s m args below meth c g nL Q M q lo (.int (if y < x then y else x) :: st)) : KW p l e R s m args below meth c g nL Q M pc lo (.int y :: .int x :: st) := by
  subst hq
  intro H locs ls hP hS hl
  have hR := C.2.2.2.2.2.2.2.2.2.2.2
  refine va_mmin C.1 C.2.1 (C.2.2.1.trans hl.1.symm) C.2.2.2.1 (C.2.2.2.2.1 _ hw.1) (C.2.2.2.2.1 _ hw.2.1) (C.2.2.2.2.1 _ hw.2.2.1) (C.2.2.2.2.1 _ hw.2.2.2) ?_ ?_ (by rw [hR]; exact Nat.le_refl 0) (by rw [hR]; exact Nat.le_refl 0) hd (k H locs ls hP hS hl)
  · rw [hR]; show 1 ≤ d + 1; omega
  · rw [hR]; show _ ≤ 48 * d + 48; omega
theorem k_mabs (C : Cx p R s m args meth c g own cc nL rt d) (q : Nat) {idx : Nat} {x : Int32} (hw : Cond.methodLink own idx Lib.Math.abs.name ∈ wA ∧ Cond.static Lib.Math.abs.name ∈ wA ∧ Cond.initialized "java/lang/Math" ∈ wA ∧ Cond.code Lib.Math.abs.name Lib.Math.abs.code 1 (some .int) ∈ wA) (hr : (st.map fun v => v.category).sum ≤ 8) (hd : decode cc pc = .ok (.invokestatic idx, 3)) (hq : pc + 3 = q) (k : KW p l e R s m args below meth c g nL Q M q lo (.int (if 0 ≤ x then x else 0 - x) :: st)) : KW p l e R s m args below meth c g nL Q M pc lo (.int x :: st) := by
  subst hq
  intro H locs ls hP hS hl
  have hR := C.2.2.2.2.2.2.2.2.2.2.2
  refine va_mabs C.1 C.2.1 (C.2.2.1.trans hl.1.symm) C.2.2.2.1 (C.2.2.2.2.1 _ hw.1) (C.2.2.2.2.1 _ hw.2.1) (C.2.2.2.2.1 _ hw.2.2.1) (C.2.2.2.2.1 _ hw.2.2.2) ?_ ?_ (by rw [hR]; exact Nat.le_refl 0) (by rw [hR]; exact Nat.le_refl 0) hd (k H locs ls hP hS hl)
  · rw [hR]; show 1 ≤ d + 1; omega
  · rw [hR]; show _ ≤ 48 * d + 48; omega
theorem k_copy (C : Cx p R s m args meth c g own cc nL rt d) (q : Nat) {idx : Nat} (k0 k1 i0 i1 n t0 : Nat) {n0 n1 : Nat} {cA : ClassId} {ty : FieldType} {sp dp z : Int32} (hw : Cond.methodLink own idx arraycopyName ∈ wA ∧ Cond.native arraycopyName ∈ wA ∧ Cond.static arraycopyName ∈ wA ∧ Cond.initialized "java/lang/System" ∈ wA) (hk0 : k0 < 105) (hk1 : k1 < 105) (he0 : ∀ f, cE g k0 f = .inl (cA, n0, .inl f)) (he1 : ∀ f, cE g k1 f = .inl (cA, n1, .inl f)) (ht : (tysG g)[t0]? = some (cA, ty)) (hprim : refKind ty = false) (hsp : sp = nI i0) (hdp : dp = nI i1) (hz : z = nI n) (h0 : i0 + n ≤ n0) (h1 : i1 + n ≤ n1) (hb0 : n0 < 2000) (hb1 : n1 < 2000) (hfit : ∀ i, i < n → fits ty (.int (M k0 (i0 + i))) = true) (hr : (st.map fun v => v.category).sum ≤ 8) (hd : decode cc pc = .ok (.invokestatic idx, 3)) (hq : pc + 3 = q) (k : KW p l e R s m args below meth c g nL Q (mrow M k1 (va_cpy (M k0) (M k1) i0 i1 n)) (q) lo st) : KW p l e R s m args below meth c g nL Q M pc lo (.int z :: .int dp :: .ref (ga g k1) :: .int sp :: .ref (ga g k0) :: st) := by
  subst hq; subst hsp; subst hdp; subst hz
  intro H locs ls hP hS hl
  have hR := C.2.2.2.2.2.2.2.2.2.2.2
  have e0 : (nI i0).toNatClampNeg = i0 := nI_clamp (by omega)
  have e1 : (nI i1).toNatClampNeg = i1 := nI_clamp (by omega)
  have e2 : (nI n).toNatClampNeg = n := nI_clamp (by omega)
  refine va_copyi C.1 C.2.1 (C.2.2.1.trans hl.1.symm) C.2.2.2.1 (C.2.2.2.2.1 _ hw.1) (C.2.2.2.2.1 _ hw.2.1) (C.2.2.2.2.1 _ hw.2.2.1) (C.2.2.2.2.1 _ hw.2.2.2) C.2.2.2.2.2.1 hP (C.2.2.2.2.2.2.1 M) hS k0 k1 t0 t0 (by rw [wl_get g M hk0, he0]) (by rw [wl_get g M hk1, he1]) ht ht hprim (nI_pos (by omega)) (nI_pos (by omega)) (nI_pos (by omega)) (by rw [e0, e2]; exact h0) (by rw [e1, e2]; exact h1) (fun i hi => by rw [e0]; exact hfit i (by rw [e2] at hi; exact hi)) ?_ ?_ hd (fun H1 locs1 hP1 _ hS1 => ?_)
  · rw [hR]; show 1 ≤ d + 1; omega
  · rw [hR]
    have e5 : nativeFrameWords "java/lang/System" "arraycopy" 5 ≤ 24 := by decide +kernel
    show _ ≤ 48 * d + 48; omega
  · rw [e0, e1, e2, wl_set g M hk1 (he1 _)] at hP1
    exact k H1 locs1 ls hP1 hS1 hl
theorem Wd_of {H : Heap} {locs : List Loc} (C : Cx p R s m args meth c g own cc nL rt d) (hP : va_P (gD g) vwCl (wl g M) H) (hS : va_S (gA g) s.heap H locs) : ∀ U : State, U.heap = H → s.WarmedH U.vm → Wd g M U := by
  intro U hU hW
  refine ⟨by rw [hU]; exact hP, va_K.moved hW.alike C.2.2.2.2.2.1, C.2.2.2.2.2.2.1 M, NW_warm hW C.2.2.2.2.2.2.2.1, ?_⟩
  rw [hU]
  exact SZ.moved hW.alike (C.2.2.2.2.2.2.2.2.1.kept (fun a h1 h2 => hS.2.1 a h1 h2))
theorem rm_ok {d0 : Nat} (h : d0 < d) {n : Nat} (hn : n ≤ 21) : (rmD d0).frames + 1 ≤ (rmD d).frames ∧ 8 + (n + 11) + (rmD d0).locals ≤ (rmD d).locals := by
  refine ⟨?_, ?_⟩
  · show d0 + 1 + 1 ≤ d + 1; omega
  · show 8 + (n + 11) + (48 * d0 + 48) ≤ 48 * d + 48; omega
theorem k_callVI (C : Cx p R s m args meth c g own cc nL rt d) (q : Nat) {y : MethodName} {cc0 : ByteArray} {nL0 d0 n idx : Nat} {ret0 : Option FieldType} {As : List Value} {sti : List Value} {post : Int32 → Mem → Prop} (k0 : Nat) {ci : Nat} {fs : List Value} {qc : vw_C} (hk : k0 < 105) (he : cE g k0 (M k0) = .inr (ci, fs)) (hc : vwCl[ci]? = some qc) (hcn : qc.1 = y.cls) (hlink : Cond.methodLink own idx y ∈ wA) (hv0 : VLk y) (hM : CtrI l g y cc0 nL0 ret0 d0 (.ref (ga g k0) :: As) M post) (hm : MLk y cc0 nL0 ret0 n) (hd0 : d0 < d) (hnL : nL0 ≤ 21) (hA : As.length = n) (hsti : sti = As.reverse ++ .ref (ga g k0) :: st) (hr : (st.map fun v => v.category).sum ≤ 8) (hd : decode cc pc = .ok (.invokevirtual idx, 3)) (hq : pc + 3 = q) (k : ∀ (r : Int32) (M1 : Mem), post r M1 → KW p l e R s m args below meth c g nL Q M1 q lo (.int r :: st)) : KW p l e R s m args below meth c g nL Q M pc lo sti := by
  subst hq; subst hsti
  intro H locs ls hP hS hl
  have hR := C.2.2.2.2.2.2.2.2.2.2.2
  subst hR
  have hrun := va_runV (e := e) (locs := locs) (cells := 0) (slots := 0) (g := F0 m pc ls (As.reverse ++ .ref (ga g k0) :: st)) (C := y.cls) (b := ga g k0) (As := As) (rest := st) (below := below) (meth := meth) (H := H) (p := p) (c := c) ⟨C.1, C.2.1, C.2.2.1, C.2.2.2.1, C.2.2.2.2.1⟩ hM ⟨callB_of n C.2.2.2.2.1 (wA_good hm.1) rfl rfl rfl (C.2.2.2.2.1 _ hm.2.1) (C.2.2.2.2.1 _ hlink) ⟨hm.2.2.1, hm.2.2.2.1, hm.2.2.2.2⟩ (rm_ok hd0 hnL), C.2.2.2.2.1 _ hv0.1, C.2.2.2.2.1 _ hv0.2⟩ ⟨Wd_blind, by have h := va_recv C.2.2.2.2.2.1 hP (ci := ci) (q0 := k0) hc (by rw [wl_get g M hk, he]); rw [hcn] at h; exact h, fun U hU hW => ⟨rfl, Wd_of C hP hS U hU hW⟩⟩ rfl hA hl.1 rfl (lv_room hr) hd ⟨Nat.le_refl 0, Nat.le_refl 0⟩
  intro T hT X
  obtain ⟨v, st₀, t, T', L, h0, X', hL, e1, e2, ⟨⟨r, M1, hv, hp, hb⟩, hz, hk⟩, stp⟩ := hrun T hT X
  cases hv
  rw [h0] at hz hk
  obtain ⟨t2, a1, b1⟩ := k r M1 hp T'.heap (locs ++ L) ls (by rw [e1]; exact hb) ⟨Nat.le_trans hS.1 (by rw [e1]; exact hz), fun q h1 h2 => by rw [e1, hk q (Nat.lt_of_lt_of_le h1 hS.1) h2]; exact hS.2.1 q h1 h2, fun q hq => by
      rcases List.mem_append.mp hq with h | h
      · exact hS.2.2 q h
      · exact hL q h⟩ hl T' rfl X'
  exact ⟨t2, stp t2 a1, b1⟩
theorem k_callVV (C : Cx p R s m args meth c g own cc nL rt d) (q : Nat) {y : MethodName} {cc0 : ByteArray} {nL0 d0 n idx : Nat}  {As : List Value} {sti : List Value} {post : Mem → Prop} (k0 : Nat) {ci : Nat} {fs : List Value} {qc : vw_C} (hk : k0 < 105) (he : cE g k0 (M k0) = .inr (ci, fs)) (hc : vwCl[ci]? = some qc) (hcn : qc.1 = y.cls) (hlink : Cond.methodLink own idx y ∈ wA) (hv0 : VLk y) (hM : CtrV l g y cc0 nL0 d0 (.ref (ga g k0) :: As) M post) (hm : MLk y cc0 nL0 none n) (hd0 : d0 < d) (hnL : nL0 ≤ 21) (hA : As.length = n) (hsti : sti = As.reverse ++ .ref (ga g k0) :: st) (hr : (st.map fun v => v.category).sum ≤ 8) (hd : decode cc pc = .ok (.invokevirtual idx, 3)) (hq : pc + 3 = q) (k : ∀ (M1 : Mem), post M1 → KW p l e R s m args below meth c g nL Q M1 q lo st) : KW p l e R s m args below meth c g nL Q M pc lo sti := by
  subst hq; subst hsti
  intro H locs ls hP hS hl
  have hR := C.2.2.2.2.2.2.2.2.2.2.2
  subst hR
  have hrun := va_runV (e := e) (locs := locs) (cells := 0) (slots := 0) (g := F0 m pc ls (As.reverse ++ .ref (ga g k0) :: st)) (C := y.cls) (b := ga g k0) (As := As) (rest := st) (below := below) (meth := meth) (H := H) (p := p) (c := c) ⟨C.1, C.2.1, C.2.2.1, C.2.2.2.1, C.2.2.2.2.1⟩ hM ⟨callB_of n C.2.2.2.2.1 (wA_good hm.1) rfl rfl rfl (C.2.2.2.2.1 _ hm.2.1) (C.2.2.2.2.1 _ hlink) ⟨hm.2.2.1, hm.2.2.2.1, hm.2.2.2.2⟩ (rm_ok hd0 hnL), C.2.2.2.2.1 _ hv0.1, C.2.2.2.2.1 _ hv0.2⟩ ⟨Wd_blind, by have h := va_recv C.2.2.2.2.2.1 hP (ci := ci) (q0 := k0) hc (by rw [wl_get g M hk, he]); rw [hcn] at h; exact h, fun U hU hW => ⟨rfl, Wd_of C hP hS U hU hW⟩⟩ rfl hA hl.1 rfl (lv_room hr) hd ⟨Nat.le_refl 0, Nat.le_refl 0⟩
  intro T hT X
  obtain ⟨v, st₀, t, T', L, h0, X', hL, e1, e2, ⟨⟨M1, hv, hp, hb⟩, hz, hk⟩, stp⟩ := hrun T hT X
  cases hv
  rw [h0] at hz hk
  obtain ⟨t2, a1, b1⟩ := k M1 hp T'.heap (locs ++ L) ls (by rw [e1]; exact hb) ⟨Nat.le_trans hS.1 (by rw [e1]; exact hz), fun q h1 h2 => by rw [e1, hk q (Nat.lt_of_lt_of_le h1 hS.1) h2]; exact hS.2.1 q h1 h2, fun q hq => by
      rcases List.mem_append.mp hq with h | h
      · exact hS.2.2 q h
      · exact hL q h⟩ hl T' rfl X'
  exact ⟨t2, stp t2 a1, b1⟩
theorem k_callSI (C : Cx p R s m args meth c g own cc nL rt d) (q : Nat) {y : MethodName} {cc0 : ByteArray} {nL0 d0 n idx : Nat} {ret0 : Option FieldType} {As : List Value} {sti : List Value} {post : Int32 → Mem → Prop} (hlink : Cond.methodLink own idx y ∈ wA) (hs0 : Cond.static y ∈ wA) (hM : CtrI l g y cc0 nL0 ret0 d0 As M post) (hm : MLk y cc0 nL0 ret0 n) (hd0 : d0 < d) (hnL : nL0 ≤ 21) (hA : As.length = n) (hsti : sti = As.reverse ++ st) (hr : (st.map fun v => v.category).sum ≤ 8) (hd : decode cc pc = .ok (.invokestatic idx, 3)) (hq : pc + 3 = q) (k : ∀ (r : Int32) (M1 : Mem), post r M1 → KW p l e R s m args below meth c g nL Q M1 q lo (.int r :: st)) : KW p l e R s m args below meth c g nL Q M pc lo sti := by
  subst hq; subst hsti
  intro H locs ls hP hS hl
  have hR := C.2.2.2.2.2.2.2.2.2.2.2
  subst hR
  have hrun := va_runS (e := e) (locs := locs) (cells := 0) (slots := 0) (g := F0 m pc ls (As.reverse ++ st)) (As := As) (rest := st) (below := below) (meth := meth) (H := H) (p := p) (c := c) ⟨C.1, C.2.1, C.2.2.1, C.2.2.2.1, C.2.2.2.2.1⟩ hM ⟨callB_of n C.2.2.2.2.1 (wA_good hm.1) rfl rfl rfl (C.2.2.2.2.1 _ hm.2.1) (C.2.2.2.2.1 _ hlink) ⟨hm.2.2.1, hm.2.2.2.1, hm.2.2.2.2⟩ (rm_ok hd0 hnL), C.2.2.2.2.1 _ hs0⟩ ⟨Wd_blind, fun U hU hW => ⟨rfl, Wd_of C hP hS U hU hW⟩⟩ rfl hA hl.1 rfl (lv_room hr) hd ⟨Nat.le_refl 0, Nat.le_refl 0⟩
  intro T hT X
  obtain ⟨v, st₀, t, T', L, h0, X', hL, e1, e2, ⟨⟨r, M1, hv, hp, hb⟩, hz, hk⟩, stp⟩ := hrun T hT X
  cases hv
  rw [h0] at hz hk
  obtain ⟨t2, a1, b1⟩ := k r M1 hp T'.heap (locs ++ L) ls (by rw [e1]; exact hb) ⟨Nat.le_trans hS.1 (by rw [e1]; exact hz), fun q h1 h2 => by rw [e1, hk q (Nat.lt_of_lt_of_le h1 hS.1) h2]; exact hS.2.1 q h1 h2, fun q hq => by
      rcases List.mem_append.mp hq with h | h
      · exact hS.2.2 q h
      · exact hL q h⟩ hl T' rfl X'
  exact ⟨t2, stp t2 a1, b1⟩
theorem k_callSV (C : Cx p R s m args meth c g own cc nL rt d) (q : Nat) {y : MethodName} {cc0 : ByteArray} {nL0 d0 n idx : Nat}  {As : List Value} {sti : List Value} {post : Mem → Prop} (hlink : Cond.methodLink own idx y ∈ wA) (hs0 : Cond.static y ∈ wA) (hM : CtrV l g y cc0 nL0 d0 As M post) (hm : MLk y cc0 nL0 none n) (hd0 : d0 < d) (hnL : nL0 ≤ 21) (hA : As.length = n) (hsti : sti = As.reverse ++ st) (hr : (st.map fun v => v.category).sum ≤ 8) (hd : decode cc pc = .ok (.invokestatic idx, 3)) (hq : pc + 3 = q) (k : ∀ (M1 : Mem), post M1 → KW p l e R s m args below meth c g nL Q M1 q lo st) : KW p l e R s m args below meth c g nL Q M pc lo sti := by
  subst hq; subst hsti
  intro H locs ls hP hS hl
  have hR := C.2.2.2.2.2.2.2.2.2.2.2
  subst hR
  have hrun := va_runS (e := e) (locs := locs) (cells := 0) (slots := 0) (g := F0 m pc ls (As.reverse ++ st)) (As := As) (rest := st) (below := below) (meth := meth) (H := H) (p := p) (c := c) ⟨C.1, C.2.1, C.2.2.1, C.2.2.2.1, C.2.2.2.2.1⟩ hM ⟨callB_of n C.2.2.2.2.1 (wA_good hm.1) rfl rfl rfl (C.2.2.2.2.1 _ hm.2.1) (C.2.2.2.2.1 _ hlink) ⟨hm.2.2.1, hm.2.2.2.1, hm.2.2.2.2⟩ (rm_ok hd0 hnL), C.2.2.2.2.1 _ hs0⟩ ⟨Wd_blind, fun U hU hW => ⟨rfl, Wd_of C hP hS U hU hW⟩⟩ rfl hA hl.1 rfl (lv_room hr) hd ⟨Nat.le_refl 0, Nat.le_refl 0⟩
  intro T hT X
  obtain ⟨v, st₀, t, T', L, h0, X', hL, e1, e2, ⟨⟨M1, hv, hp, hb⟩, hz, hk⟩, stp⟩ := hrun T hT X
  cases hv
  rw [h0] at hz hk
  obtain ⟨t2, a1, b1⟩ := k M1 hp T'.heap (locs ++ L) ls (by rw [e1]; exact hb) ⟨Nat.le_trans hS.1 (by rw [e1]; exact hz), fun q h1 h2 => by rw [e1, hk q (Nat.lt_of_lt_of_le h1 hS.1) h2]; exact hS.2.1 q h1 h2, fun q hq => by
      rcases List.mem_append.mp hq with h | h
      · exact hS.2.2 q h
      · exact hL q h⟩ hl T' rfl X'
  exact ⟨t2, stp t2 a1, b1⟩
theorem k_callNI (C : Cx p R s m args meth c g own cc nL rt d) (q : Nat) {y : MethodName} {cc0 : ByteArray} {nL0 d0 n idx : Nat} {ret0 : Option FieldType} {As : List Value} {sti : List Value} {post : Int32 → Mem → Prop} {host : String} (hlink : Cond.methodLinkNest own idx y host ∈ NW) (hs0 : Cond.static y ∈ wA) (hM : CtrI l g y cc0 nL0 ret0 d0 As M post) (hm : MLk y cc0 nL0 ret0 n) (hd0 : d0 < d) (hnL : nL0 ≤ 21) (hA : As.length = n) (hsti : sti = As.reverse ++ st) (hr : (st.map fun v => v.category).sum ≤ 8) (hd : decode cc pc = .ok (.invokestatic idx, 3)) (hq : pc + 3 = q) (k : ∀ (r : Int32) (M1 : Mem), post r M1 → KW p l e R s m args below meth c g nL Q M1 q lo (.int r :: st)) : KW p l e R s m args below meth c g nL Q M pc lo sti := by
  subst hq; subst hsti
  intro H locs ls hP hS hl
  have hR := C.2.2.2.2.2.2.2.2.2.2.2
  subst hR
  have hrun := va_runSN (e := e) (locs := locs) (cells := 0) (slots := 0) (g := F0 m pc ls (As.reverse ++ st)) (As := As) (rest := st) (below := below) (meth := meth) (H := H) (p := p) (c := c) ⟨C.1, C.2.1, C.2.2.1, C.2.2.2.1, C.2.2.2.2.1⟩ hM ⟨va_cnB n C.2.2.2.2.1 (wA_good hm.1) rfl rfl rfl (C.2.2.2.2.2.2.2.1 _ hlink) (C.2.2.2.2.1 _ hm.2.1) ⟨hm.2.2.1, hm.2.2.2.1, hm.2.2.2.2⟩ (rm_ok hd0 hnL), C.2.2.2.2.1 _ hs0, trivial⟩ ⟨Wd_blind, fun U hU hW => ⟨rfl, Wd_of C hP hS U hU hW⟩⟩ rfl hA hl.1 rfl (lv_room hr) hd ⟨Nat.le_refl 0, Nat.le_refl 0⟩
  intro T hT X
  obtain ⟨v, st₀, t, T', L, h0, X', hL, e1, e2, ⟨⟨r, M1, hv, hp, hb⟩, hz, hk⟩, stp⟩ := hrun T hT X
  cases hv
  rw [h0] at hz hk
  obtain ⟨t2, a1, b1⟩ := k r M1 hp T'.heap (locs ++ L) ls (by rw [e1]; exact hb) ⟨Nat.le_trans hS.1 (by rw [e1]; exact hz), fun q h1 h2 => by rw [e1, hk q (Nat.lt_of_lt_of_le h1 hS.1) h2]; exact hS.2.1 q h1 h2, fun q hq => by
      rcases List.mem_append.mp hq with h | h
      · exact hS.2.2 q h
      · exact hL q h⟩ hl T' rfl X'
  exact ⟨t2, stp t2 a1, b1⟩
theorem k_callNV (C : Cx p R s m args meth c g own cc nL rt d) (q : Nat) {y : MethodName} {cc0 : ByteArray} {nL0 d0 n idx : Nat}  {As : List Value} {sti : List Value} {post : Mem → Prop} {host : String} (hlink : Cond.methodLinkNest own idx y host ∈ NW) (hs0 : Cond.static y ∈ wA) (hM : CtrV l g y cc0 nL0 d0 As M post) (hm : MLk y cc0 nL0 none n) (hd0 : d0 < d) (hnL : nL0 ≤ 21) (hA : As.length = n) (hsti : sti = As.reverse ++ st) (hr : (st.map fun v => v.category).sum ≤ 8) (hd : decode cc pc = .ok (.invokestatic idx, 3)) (hq : pc + 3 = q) (k : ∀ (M1 : Mem), post M1 → KW p l e R s m args below meth c g nL Q M1 q lo st) : KW p l e R s m args below meth c g nL Q M pc lo sti := by
  subst hq; subst hsti
  intro H locs ls hP hS hl
  have hR := C.2.2.2.2.2.2.2.2.2.2.2
  subst hR
  have hrun := va_runSN (e := e) (locs := locs) (cells := 0) (slots := 0) (g := F0 m pc ls (As.reverse ++ st)) (As := As) (rest := st) (below := below) (meth := meth) (H := H) (p := p) (c := c) ⟨C.1, C.2.1, C.2.2.1, C.2.2.2.1, C.2.2.2.2.1⟩ hM ⟨va_cnB n C.2.2.2.2.1 (wA_good hm.1) rfl rfl rfl (C.2.2.2.2.2.2.2.1 _ hlink) (C.2.2.2.2.1 _ hm.2.1) ⟨hm.2.2.1, hm.2.2.2.1, hm.2.2.2.2⟩ (rm_ok hd0 hnL), C.2.2.2.2.1 _ hs0, trivial⟩ ⟨Wd_blind, fun U hU hW => ⟨rfl, Wd_of C hP hS U hU hW⟩⟩ rfl hA hl.1 rfl (lv_room hr) hd ⟨Nat.le_refl 0, Nat.le_refl 0⟩
  intro T hT X
  obtain ⟨v, st₀, t, T', L, h0, X', hL, e1, e2, ⟨⟨M1, hv, hp, hb⟩, hz, hk⟩, stp⟩ := hrun T hT X
  cases hv
  rw [h0] at hz hk
  obtain ⟨t2, a1, b1⟩ := k M1 hp T'.heap (locs ++ L) ls (by rw [e1]; exact hb) ⟨Nat.le_trans hS.1 (by rw [e1]; exact hz), fun q h1 h2 => by rw [e1, hk q (Nat.lt_of_lt_of_le h1 hS.1) h2]; exact hS.2.1 q h1 h2, fun q hq => by
      rcases List.mem_append.mp hq with h | h
      · exact hS.2.2 q h
      · exact hL q h⟩ hl T' rfl X'
  exact ⟨t2, stp t2 a1, b1⟩
theorem k_ret {post : Int32 → Mem → Prop} {ty : FieldType} {v : Int32} (C : Cx p R s m args meth c g own cc nL (some ty) d) (hn : narrow ty (.int v) = .int v) (hd : decode cc pc = .ok (.ireturn, 1)) (hp : post v M) : KW p l e R s m args below meth c g nL (MQ below (kQI g post) args s 0 0 (gA g)) M pc lo [.int v] :=
  fun H locs ls hP hS hl => W.zret C.1 C.2.1 C.2.2.2.2.2.2.2.2.2.2.1 hn (fun t ht hW => ⟨⟨v, M, rfl, hp, by rw [ht]; exact hP⟩, hS.F ht⟩) hS.2.2 hd C.2.2.2.2.2.2.2.2.2.1
theorem k_vret {post : Mem → Prop} (C : Cx p R s m args meth c g own cc nL none d) (hd : decode cc pc = .ok (.return_, 1)) (hp : post M) : KW p l e R s m args below meth c g nL (MQ below (kQV g post) args s 0 0 (gA g)) M pc lo [] :=
  fun H locs ls hP hS hl => W.vret C.1 C.2.1 C.2.2.2.2.2.2.2.2.2.2.1 (fun t ht hW => ⟨⟨M, rfl, hp, by rw [ht]; exact hP⟩, hS.F ht⟩) hS.2.2 hd C.2.2.2.2.2.2.2.2.2.1
end KW
theorem ctrI_of {l : Launch} {g : GT} {y : MethodName} {cc : ByteArray} {nL d : Nat} {ret : Option FieldType} {av : List Value} {M : Mem} {post : Int32 → Mem → Prop} (hy : plainName y.cls = true) (hlen : (lg_sl av).length ≤ nL)
    (body : ∀ (p : Program) (e : Env) (R : Room) (s : State) (m : MethodId) (args : Array Value) (below : List Frame) (meth : Method) (c : Code), Cx p R s m args meth c g y.cls cc nL ret d → KW p l e R s m args below meth c g nL (MQ below (kQI g post) args s 0 0 (gA g)) M 0 (lv_args 0 av) []) : CtrI l g y cc nL ret d av M post := by
  refine Met.ofW (cc := cc) (maxL := nL) (ret := ret) hy rfl ?_
  intro p e s m args below meth c s₁ B hml hv
  obtain ⟨rfl, hP, hK, hD, hN, hZ⟩ := hv
  have hl := lv_entry av (n := nL) hlen
  rw [lg_entry_eq]
  exact body p e _ s m _ below meth c ⟨B.exec, B.bytes, hml, findClass_of_methodNamed B.named, fun w hw => atoms_spec (ws := .code y cc nL ret :: wA) B.pre w (List.mem_cons_of_mem _ hw), hK, fun M' => wl_D g M M' hD, hN, hZ, B.notSynchronized, B.returns, rfl⟩ s.heap [] _ hP va_S.rf hl
theorem ctrV_of {l : Launch} {g : GT} {y : MethodName} {cc : ByteArray} {nL d : Nat} {av : List Value} {M : Mem} {post : Mem → Prop} (hy : plainName y.cls = true) (hlen : (lg_sl av).length ≤ nL)
    (body : ∀ (p : Program) (e : Env) (R : Room) (s : State) (m : MethodId) (args : Array Value) (below : List Frame) (meth : Method) (c : Code), Cx p R s m args meth c g y.cls cc nL none d → KW p l e R s m args below meth c g nL (MQ below (kQV g post) args s 0 0 (gA g)) M 0 (lv_args 0 av) []) : CtrV l g y cc nL d av M post := by
  refine Met.ofW (cc := cc) (maxL := nL) (ret := none) hy rfl ?_
  intro p e s m args below meth c s₁ B hml hv
  obtain ⟨rfl, hP, hK, hD, hN, hZ⟩ := hv
  have hl := lv_entry av (n := nL) hlen
  rw [lg_entry_eq]
  exact body p e _ s m _ below meth c ⟨B.exec, B.bytes, hml, findClass_of_methodNamed B.named, fun w hw => atoms_spec (ws := .code y cc nL none :: wA) B.pre w (List.mem_cons_of_mem _ hw), hK, fun M' => wl_D g M M' hD, hN, hZ, B.notSynchronized, B.returns, rfl⟩ s.heap [] _ hP va_S.rf hl

