-- the world as it is born
def M0 : Mem := fun k j => if k < 37 then (if j = 2 then 1 else 0) else if k < 40 then (if j = 3 then 5 else if j = 4 then 1 else 0) else if k = 77 then (if j = 2 then 64 else 0) else if k = 92 then (if j = 1 then 1 else if j = 3 then 5 else 0) else 0
def gaB (b mb : Nat → Nat) (x m t5 t6 : Nat) : Nat → Nat := fun k => if k < 12 then b k else if k < 24 then b (23 + (k - 12)) else if k < 36 then b (46 + (k - 24)) else ([b 62, b 13, b 36, b 61, b 12, b 35, b 58, b 59, b 60, b 14, b 37, b 17, b 18, b 40, b 41, b 74, b 19, b 21, b 42, b 44, b 75, b 20, b 22, b 43, b 45, b 76, b 15, b 38, b 77, b 16, b 39, b 63, b 64, b 65, b 69, b 66, b 70, b 67, b 71, b 68, b 72, b 73, b 78, b 79, b 80, b 81, b 82, b 83, b 84, b 85, b 86, b 87, b 88, b 89, x, m, mb 0, mb 1, mb 2, mb 3, mb 4, mb 5, mb 6, mb 7, mb 8, mb 9, mb 10, mb 11, mb 12, t5, t6] : List Nat).getD (k - 36) 0
def gB (D : va_G) (AC : Nat → ClassId) (b mb : Nat → Nat) (x m t5 t6 sz : Nat) : GT := (D, AC, gaB b mb x m t5 t6, sz)
def bornL (AC : Nat → ClassId) (b mb : Nat → Nat) (x m : Nat) : va_W := talkW AC x b ++ modelW AC m mb
def flatL (AC : Nat → ClassId) (b mb : Nat → Nat) (x m : Nat) : va_W := [(x, .inr (9, [.ref (b 59), .ref (b 60), .int 0, .ref (b 61), .ref (b 62), .ref (b 63), .ref (b 65), .ref (b 69), .ref (b 73), .ref (b 78), .ref (b 80), .ref (b 89)])), (b 80, eQ AC 5 4 (fun j => b (81 + j))), (b 84, .inr (5, [.ref (b 88), .int 0, .int 0])), (b 83, .inr (5, [.ref (b 87), .int 0, .int 0])), (b 82, .inr (5, [.ref (b 86), .int 0, .int 0])), (b 81, .inr (5, [.ref (b 85), .int 0, .int 0])), (b 59, .inr (8, [.ref (b 13), .ref (b 14), .ref (b 15), .int 0, .ref (b 16), .int 0])), (b 14, eQ AC 4 2 (fun j => b (17 + j))), (b 18, eL (b 21) (b 22)), (b 17, eL (b 19) (b 20)), (b 13, .inr (1, [.ref (b 12), .int 0, .int 0, .int 5, .int 1])), (b 12, eQ AC 3 12 (b)), (b 0, eF), (b 1, eF), (b 2, eF), (b 3, eF), (b 4, eF), (b 5, eF), (b 6, eF), (b 7, eF), (b 8, eF), (b 9, eF), (b 10, eF), (b 11, eF), (b 15, eB AC 60), (b 16, eI AC 24), (b 19, eI AC 60), (b 20, eI AC 60), (b 21, eI AC 60), (b 22, eI AC 60), (b 60, .inr (8, [.ref (b 36), .ref (b 37), .ref (b 38), .int 0, .ref (b 39), .int 0])), (b 37, eQ AC 4 2 (fun j => b (23 + (17 + j)))), (b 41, eL (b 44) (b 45)), (b 40, eL (b 42) (b 43)), (b 36, .inr (1, [.ref (b 35), .int 0, .int 0, .int 5, .int 1])), (b 35, eQ AC 3 12 (fun j => b (23 + j))), (b 23, eF), (b 24, eF), (b 25, eF), (b 26, eF), (b 27, eF), (b 28, eF), (b 29, eF), (b 30, eF), (b 31, eF), (b 32, eF), (b 33, eF), (b 34, eF), (b 38, eB AC 60), (b 39, eI AC 24), (b 42, eI AC 60), (b 43, eI AC 60), (b 44, eI AC 60), (b 45, eI AC 60), (b 61, .inr (1, [.ref (b 58), .int 0, .int 0, .int 5, .int 1])), (b 58, eQ AC 3 12 (fun j => b (46 + j))), (b 46, eF), (b 47, eF), (b 48, eF), (b 49, eF), (b 50, eF), (b 51, eF), (b 52, eF), (b 53, eF), (b 54, eF), (b 55, eF), (b 56, eF), (b 57, eF), (b 62, eF), (b 63, .inr (0, [.ref (b 64)])), (b 64, eI AC 12), (b 65, .inr (4, [.ref (b 66), .ref (b 67), .ref (b 68)])), (b 66, eI AC 12), (b 67, eI AC 12), (b 68, eZ AC 12), (b 69, .inr (4, [.ref (b 70), .ref (b 71), .ref (b 72)])), (b 70, eI AC 6), (b 71, eI AC 6), (b 72, eZ AC 6), (b 73, .inr (7, [.ref (b 74), .int 0, .ref (b 77), .int 0, .int 0])), (b 74, eL (b 75) (b 76)), (b 75, eI AC 60), (b 76, eI AC 60), (b 77, eB AC 0), (b 78, .inr (6, [.ref (b 79), .int 0, .int 0, .int 0, .int 0, .int 0])), (b 79, eI AC 30), (b 89, eI AC 7), (b 85, eI AC 24), (b 86, eI AC 24), (b 87, eI AC 24), (b 88, eI AC 24), (m, .inr (10, [.ref (mb 0), .ref (mb 1), .ref (mb 2), .int 0, .ref (mb 3), .ref (mb 4), .ref (mb 5), .ref (mb 6), .ref (mb 7), .ref (mb 8), .ref (mb 9), .ref (mb 10), .int 0, .int 0, .int 0, .int 0, .int 0, .ref (mb 11), .ref (mb 12), .int 0, .int 0])), (mb 0, .inl (AC 0, 416, .inl row0)), (mb 1, eI AC 416), (mb 2, eI AC 416), (mb 3, eI AC 7), (mb 4, eI AC 4), (mb 5, eI AC 4), (mb 6, eI AC 96), (mb 7, eI AC 60), (mb 8, eI AC 60), (mb 9, eI AC 3), (mb 10, eI AC 60), (mb 11, eI AC 72), (mb 12, eI AC 30)]
theorem r12 : List.range 12 = [0, 1, 2, 3, 4, 5, 6, 7, 8, 9, 10, 11] := by decide +kernel
set_option maxRecDepth 20000 in
theorem born_flat (AC : Nat → ClassId) (b mb : Nat → Nat) (x m : Nat) : bornL AC b mb x m = flatL AC b mb x m := by
  simp only [bornL, talkW, modelW, worldW, fieldW, chainsW, scaleW, readW, speakW, r12, List.map_cons, List.map_nil, List.cons_append, List.nil_append]
  rfl
def posl : List Nat := [12, 13, 14, 15, 16, 17, 18, 19, 20, 21, 22, 23, 36, 37, 38, 39, 40, 41, 42, 43, 44, 45, 46, 47, 56, 57, 58, 59, 60, 61, 62, 63, 64, 65, 66, 67, 68, 10, 34, 54, 11, 35, 55, 6, 30, 7, 31, 9, 8, 33, 32, 80, 26, 28, 50, 52, 81, 27, 29, 51, 53, 82, 24, 48, 83, 25, 49, 69, 70, 71, 75, 72, 76, 73, 77, 74, 78, 79, 84, 85, 1, 5, 4, 3, 2, 87, 88, 89, 90, 86, 0, 91, 92, 93, 94, 95, 96, 97, 98, 99, 100, 101, 102, 103, 104]
def Bk (D : va_G) (AC : Nat → ClassId) (b mb : Nat → Nat) (x m t5 t6 sz : Nat) (k : Nat) : Prop := ∃ e : va_E, (flatL AC b mb x m)[posl.getD k 0]? = some (gaB b mb x m t5 t6 k, e) ∧ ∀ H : Heap, va_at D vwCl (gaB b mb x m t5 t6 k, e) H → va_at D vwCl (gaB b mb x m t5 t6 k, cE (gB D AC b mb x m t5 t6 sz) k (M0 k)) H
theorem arr_q {cA : ClassId} {n : Nat} {f h : Nat → Option Nat} (e : ∀ i, i < n → f i = h i) : vp_cell cA (n, .inr (.inr (.inr (.inr f)))) = vp_cell cA (n, .inr (.inr (.inr (.inr h)))) := by
  rw [vp_cell_q, vp_cell_q]
  have : (fun j : Fin n => va_rf (f j.val)) = fun j => va_rf (h j.val) := funext (fun j => by rw [e j.val j.isLt])
  unfold arrV
  rw [this]
theorem row0_eq : row0 = M0 92 := by
  funext j
  show upd (upd (fun _ => 0) 1 1) 3 5 j = if j = 1 then 1 else if j = 3 then 5 else 0
  unfold upd
  by_cases h1 : j = 1
  · subst h1; rfl
  · by_cases h3 : j = 3
    · subst h3; rfl
    · rw [if_neg h3, if_neg h1, if_neg h1, if_neg h3]
theorem at_q {D : va_G} {a : Nat} {cA : ClassId} {n : Nat} {f h : Nat → Option Nat} (e : ∀ i, i < n → f i = h i) : ∀ H : Heap, va_at D vwCl (a, .inl (cA, n, .inr (.inr (.inr (.inr f))))) H → va_at D vwCl (a, .inl (cA, n, .inr (.inr (.inr (.inr h))))) H := fun H z => by
  show H[a]? = some (vp_cell cA (n, .inr (.inr (.inr (.inr h)))))
  rw [← arr_q e]; exact z
set_option maxRecDepth 20000 in
theorem born_0 (D : va_G) (AC : Nat → ClassId) (b mb : Nat → Nat) (x m t5 t6 sz : Nat) : Bk D AC b mb x m t5 t6 sz 0 := ⟨_, rfl, fun _ z => z⟩
set_option maxRecDepth 20000 in
theorem born_1 (D : va_G) (AC : Nat → ClassId) (b mb : Nat → Nat) (x m t5 t6 sz : Nat) : Bk D AC b mb x m t5 t6 sz 1 := ⟨_, rfl, fun _ z => z⟩
set_option maxRecDepth 20000 in
theorem born_2 (D : va_G) (AC : Nat → ClassId) (b mb : Nat → Nat) (x m t5 t6 sz : Nat) : Bk D AC b mb x m t5 t6 sz 2 := ⟨_, rfl, fun _ z => z⟩
set_option maxRecDepth 20000 in
theorem born_3 (D : va_G) (AC : Nat → ClassId) (b mb : Nat → Nat) (x m t5 t6 sz : Nat) : Bk D AC b mb x m t5 t6 sz 3 := ⟨_, rfl, fun _ z => z⟩
set_option maxRecDepth 20000 in
theorem born_4 (D : va_G) (AC : Nat → ClassId) (b mb : Nat → Nat) (x m t5 t6 sz : Nat) : Bk D AC b mb x m t5 t6 sz 4 := ⟨_, rfl, fun _ z => z⟩
set_option maxRecDepth 20000 in
theorem born_5 (D : va_G) (AC : Nat → ClassId) (b mb : Nat → Nat) (x m t5 t6 sz : Nat) : Bk D AC b mb x m t5 t6 sz 5 := ⟨_, rfl, fun _ z => z⟩
set_option maxRecDepth 20000 in
theorem born_6 (D : va_G) (AC : Nat → ClassId) (b mb : Nat → Nat) (x m t5 t6 sz : Nat) : Bk D AC b mb x m t5 t6 sz 6 := ⟨_, rfl, fun _ z => z⟩
set_option maxRecDepth 20000 in
theorem born_7 (D : va_G) (AC : Nat → ClassId) (b mb : Nat → Nat) (x m t5 t6 sz : Nat) : Bk D AC b mb x m t5 t6 sz 7 := ⟨_, rfl, fun _ z => z⟩
set_option maxRecDepth 20000 in
theorem born_8 (D : va_G) (AC : Nat → ClassId) (b mb : Nat → Nat) (x m t5 t6 sz : Nat) : Bk D AC b mb x m t5 t6 sz 8 := ⟨_, rfl, fun _ z => z⟩
set_option maxRecDepth 20000 in
theorem born_9 (D : va_G) (AC : Nat → ClassId) (b mb : Nat → Nat) (x m t5 t6 sz : Nat) : Bk D AC b mb x m t5 t6 sz 9 := ⟨_, rfl, fun _ z => z⟩
set_option maxRecDepth 20000 in
theorem born_10 (D : va_G) (AC : Nat → ClassId) (b mb : Nat → Nat) (x m t5 t6 sz : Nat) : Bk D AC b mb x m t5 t6 sz 10 := ⟨_, rfl, fun _ z => z⟩
set_option maxRecDepth 20000 in
theorem born_11 (D : va_G) (AC : Nat → ClassId) (b mb : Nat → Nat) (x m t5 t6 sz : Nat) : Bk D AC b mb x m t5 t6 sz 11 := ⟨_, rfl, fun _ z => z⟩
set_option maxRecDepth 20000 in
theorem born_12 (D : va_G) (AC : Nat → ClassId) (b mb : Nat → Nat) (x m t5 t6 sz : Nat) : Bk D AC b mb x m t5 t6 sz 12 := ⟨_, rfl, fun _ z => z⟩
set_option maxRecDepth 20000 in
theorem born_13 (D : va_G) (AC : Nat → ClassId) (b mb : Nat → Nat) (x m t5 t6 sz : Nat) : Bk D AC b mb x m t5 t6 sz 13 := ⟨_, rfl, fun _ z => z⟩
set_option maxRecDepth 20000 in
theorem born_14 (D : va_G) (AC : Nat → ClassId) (b mb : Nat → Nat) (x m t5 t6 sz : Nat) : Bk D AC b mb x m t5 t6 sz 14 := ⟨_, rfl, fun _ z => z⟩
set_option maxRecDepth 20000 in
theorem born_15 (D : va_G) (AC : Nat → ClassId) (b mb : Nat → Nat) (x m t5 t6 sz : Nat) : Bk D AC b mb x m t5 t6 sz 15 := ⟨_, rfl, fun _ z => z⟩
set_option maxRecDepth 20000 in
theorem born_16 (D : va_G) (AC : Nat → ClassId) (b mb : Nat → Nat) (x m t5 t6 sz : Nat) : Bk D AC b mb x m t5 t6 sz 16 := ⟨_, rfl, fun _ z => z⟩
set_option maxRecDepth 20000 in
theorem born_17 (D : va_G) (AC : Nat → ClassId) (b mb : Nat → Nat) (x m t5 t6 sz : Nat) : Bk D AC b mb x m t5 t6 sz 17 := ⟨_, rfl, fun _ z => z⟩
set_option maxRecDepth 20000 in
theorem born_18 (D : va_G) (AC : Nat → ClassId) (b mb : Nat → Nat) (x m t5 t6 sz : Nat) : Bk D AC b mb x m t5 t6 sz 18 := ⟨_, rfl, fun _ z => z⟩
set_option maxRecDepth 20000 in
theorem born_19 (D : va_G) (AC : Nat → ClassId) (b mb : Nat → Nat) (x m t5 t6 sz : Nat) : Bk D AC b mb x m t5 t6 sz 19 := ⟨_, rfl, fun _ z => z⟩
set_option maxRecDepth 20000 in
theorem born_20 (D : va_G) (AC : Nat → ClassId) (b mb : Nat → Nat) (x m t5 t6 sz : Nat) : Bk D AC b mb x m t5 t6 sz 20 := ⟨_, rfl, fun _ z => z⟩
set_option maxRecDepth 20000 in
theorem born_21 (D : va_G) (AC : Nat → ClassId) (b mb : Nat → Nat) (x m t5 t6 sz : Nat) : Bk D AC b mb x m t5 t6 sz 21 := ⟨_, rfl, fun _ z => z⟩
set_option maxRecDepth 20000 in
theorem born_22 (D : va_G) (AC : Nat → ClassId) (b mb : Nat → Nat) (x m t5 t6 sz : Nat) : Bk D AC b mb x m t5 t6 sz 22 := ⟨_, rfl, fun _ z => z⟩
set_option maxRecDepth 20000 in
theorem born_23 (D : va_G) (AC : Nat → ClassId) (b mb : Nat → Nat) (x m t5 t6 sz : Nat) : Bk D AC b mb x m t5 t6 sz 23 := ⟨_, rfl, fun _ z => z⟩
set_option maxRecDepth 20000 in
theorem born_24 (D : va_G) (AC : Nat → ClassId) (b mb : Nat → Nat) (x m t5 t6 sz : Nat) : Bk D AC b mb x m t5 t6 sz 24 := ⟨_, rfl, fun _ z => z⟩
set_option maxRecDepth 20000 in
theorem born_25 (D : va_G) (AC : Nat → ClassId) (b mb : Nat → Nat) (x m t5 t6 sz : Nat) : Bk D AC b mb x m t5 t6 sz 25 := ⟨_, rfl, fun _ z => z⟩
set_option maxRecDepth 20000 in
theorem born_26 (D : va_G) (AC : Nat → ClassId) (b mb : Nat → Nat) (x m t5 t6 sz : Nat) : Bk D AC b mb x m t5 t6 sz 26 := ⟨_, rfl, fun _ z => z⟩
set_option maxRecDepth 20000 in
theorem born_27 (D : va_G) (AC : Nat → ClassId) (b mb : Nat → Nat) (x m t5 t6 sz : Nat) : Bk D AC b mb x m t5 t6 sz 27 := ⟨_, rfl, fun _ z => z⟩
set_option maxRecDepth 20000 in
theorem born_28 (D : va_G) (AC : Nat → ClassId) (b mb : Nat → Nat) (x m t5 t6 sz : Nat) : Bk D AC b mb x m t5 t6 sz 28 := ⟨_, rfl, fun _ z => z⟩
set_option maxRecDepth 20000 in
theorem born_29 (D : va_G) (AC : Nat → ClassId) (b mb : Nat → Nat) (x m t5 t6 sz : Nat) : Bk D AC b mb x m t5 t6 sz 29 := ⟨_, rfl, fun _ z => z⟩
set_option maxRecDepth 20000 in
theorem born_30 (D : va_G) (AC : Nat → ClassId) (b mb : Nat → Nat) (x m t5 t6 sz : Nat) : Bk D AC b mb x m t5 t6 sz 30 := ⟨_, rfl, fun _ z => z⟩
set_option maxRecDepth 20000 in
theorem born_31 (D : va_G) (AC : Nat → ClassId) (b mb : Nat → Nat) (x m t5 t6 sz : Nat) : Bk D AC b mb x m t5 t6 sz 31 := ⟨_, rfl, fun _ z => z⟩
set_option maxRecDepth 20000 in
theorem born_32 (D : va_G) (AC : Nat → ClassId) (b mb : Nat → Nat) (x m t5 t6 sz : Nat) : Bk D AC b mb x m t5 t6 sz 32 := ⟨_, rfl, fun _ z => z⟩
set_option maxRecDepth 20000 in
theorem born_33 (D : va_G) (AC : Nat → ClassId) (b mb : Nat → Nat) (x m t5 t6 sz : Nat) : Bk D AC b mb x m t5 t6 sz 33 := ⟨_, rfl, fun _ z => z⟩
set_option maxRecDepth 20000 in
theorem born_34 (D : va_G) (AC : Nat → ClassId) (b mb : Nat → Nat) (x m t5 t6 sz : Nat) : Bk D AC b mb x m t5 t6 sz 34 := ⟨_, rfl, fun _ z => z⟩
set_option maxRecDepth 20000 in
theorem born_35 (D : va_G) (AC : Nat → ClassId) (b mb : Nat → Nat) (x m t5 t6 sz : Nat) : Bk D AC b mb x m t5 t6 sz 35 := ⟨_, rfl, fun _ z => z⟩
set_option maxRecDepth 20000 in
theorem born_36 (D : va_G) (AC : Nat → ClassId) (b mb : Nat → Nat) (x m t5 t6 sz : Nat) : Bk D AC b mb x m t5 t6 sz 36 := ⟨_, rfl, fun _ z => z⟩
set_option maxRecDepth 20000 in
theorem born_37 (D : va_G) (AC : Nat → ClassId) (b mb : Nat → Nat) (x m t5 t6 sz : Nat) : Bk D AC b mb x m t5 t6 sz 37 := ⟨_, rfl, fun _ z => z⟩
set_option maxRecDepth 20000 in
theorem born_38 (D : va_G) (AC : Nat → ClassId) (b mb : Nat → Nat) (x m t5 t6 sz : Nat) : Bk D AC b mb x m t5 t6 sz 38 := ⟨_, rfl, fun _ z => z⟩
set_option maxRecDepth 20000 in
theorem born_39 (D : va_G) (AC : Nat → ClassId) (b mb : Nat → Nat) (x m t5 t6 sz : Nat) : Bk D AC b mb x m t5 t6 sz 39 := ⟨_, rfl, fun _ z => z⟩
set_option maxRecDepth 20000 in
theorem born_40 (D : va_G) (AC : Nat → ClassId) (b mb : Nat → Nat) (x m t5 t6 sz : Nat) : Bk D AC b mb x m t5 t6 sz 40 := ⟨_, rfl, at_q (fun i hi => by rcases (show i = 0 ∨ i = 1 ∨ i = 2 ∨ i = 3 ∨ i = 4 ∨ i = 5 ∨ i = 6 ∨ i = 7 ∨ i = 8 ∨ i = 9 ∨ i = 10 ∨ i = 11 by omega) with rfl | rfl | rfl | rfl | rfl | rfl | rfl | rfl | rfl | rfl | rfl | rfl <;> rfl)⟩
set_option maxRecDepth 20000 in
theorem born_41 (D : va_G) (AC : Nat → ClassId) (b mb : Nat → Nat) (x m t5 t6 sz : Nat) : Bk D AC b mb x m t5 t6 sz 41 := ⟨_, rfl, at_q (fun i hi => by rcases (show i = 0 ∨ i = 1 ∨ i = 2 ∨ i = 3 ∨ i = 4 ∨ i = 5 ∨ i = 6 ∨ i = 7 ∨ i = 8 ∨ i = 9 ∨ i = 10 ∨ i = 11 by omega) with rfl | rfl | rfl | rfl | rfl | rfl | rfl | rfl | rfl | rfl | rfl | rfl <;> rfl)⟩
set_option maxRecDepth 20000 in
theorem born_42 (D : va_G) (AC : Nat → ClassId) (b mb : Nat → Nat) (x m t5 t6 sz : Nat) : Bk D AC b mb x m t5 t6 sz 42 := ⟨_, rfl, at_q (fun i hi => by rcases (show i = 0 ∨ i = 1 ∨ i = 2 ∨ i = 3 ∨ i = 4 ∨ i = 5 ∨ i = 6 ∨ i = 7 ∨ i = 8 ∨ i = 9 ∨ i = 10 ∨ i = 11 by omega) with rfl | rfl | rfl | rfl | rfl | rfl | rfl | rfl | rfl | rfl | rfl | rfl <;> rfl)⟩
set_option maxRecDepth 20000 in
theorem born_43 (D : va_G) (AC : Nat → ClassId) (b mb : Nat → Nat) (x m t5 t6 sz : Nat) : Bk D AC b mb x m t5 t6 sz 43 := ⟨_, rfl, fun _ z => z⟩
set_option maxRecDepth 20000 in
theorem born_44 (D : va_G) (AC : Nat → ClassId) (b mb : Nat → Nat) (x m t5 t6 sz : Nat) : Bk D AC b mb x m t5 t6 sz 44 := ⟨_, rfl, fun _ z => z⟩
set_option maxRecDepth 20000 in
theorem born_45 (D : va_G) (AC : Nat → ClassId) (b mb : Nat → Nat) (x m t5 t6 sz : Nat) : Bk D AC b mb x m t5 t6 sz 45 := ⟨_, rfl, at_q (fun i hi => by rcases (show i = 0 ∨ i = 1 by omega) with rfl | rfl <;> rfl)⟩
set_option maxRecDepth 20000 in
theorem born_46 (D : va_G) (AC : Nat → ClassId) (b mb : Nat → Nat) (x m t5 t6 sz : Nat) : Bk D AC b mb x m t5 t6 sz 46 := ⟨_, rfl, at_q (fun i hi => by rcases (show i = 0 ∨ i = 1 by omega) with rfl | rfl <;> rfl)⟩
set_option maxRecDepth 20000 in
theorem born_47 (D : va_G) (AC : Nat → ClassId) (b mb : Nat → Nat) (x m t5 t6 sz : Nat) : Bk D AC b mb x m t5 t6 sz 47 := ⟨_, rfl, fun _ z => z⟩
set_option maxRecDepth 20000 in
theorem born_48 (D : va_G) (AC : Nat → ClassId) (b mb : Nat → Nat) (x m t5 t6 sz : Nat) : Bk D AC b mb x m t5 t6 sz 48 := ⟨_, rfl, fun _ z => z⟩
set_option maxRecDepth 20000 in
theorem born_49 (D : va_G) (AC : Nat → ClassId) (b mb : Nat → Nat) (x m t5 t6 sz : Nat) : Bk D AC b mb x m t5 t6 sz 49 := ⟨_, rfl, fun _ z => z⟩
set_option maxRecDepth 20000 in
theorem born_50 (D : va_G) (AC : Nat → ClassId) (b mb : Nat → Nat) (x m t5 t6 sz : Nat) : Bk D AC b mb x m t5 t6 sz 50 := ⟨_, rfl, fun _ z => z⟩
set_option maxRecDepth 20000 in
theorem born_51 (D : va_G) (AC : Nat → ClassId) (b mb : Nat → Nat) (x m t5 t6 sz : Nat) : Bk D AC b mb x m t5 t6 sz 51 := ⟨_, rfl, fun _ z => z⟩
set_option maxRecDepth 20000 in
theorem born_52 (D : va_G) (AC : Nat → ClassId) (b mb : Nat → Nat) (x m t5 t6 sz : Nat) : Bk D AC b mb x m t5 t6 sz 52 := ⟨_, rfl, fun _ z => z⟩
set_option maxRecDepth 20000 in
theorem born_53 (D : va_G) (AC : Nat → ClassId) (b mb : Nat → Nat) (x m t5 t6 sz : Nat) : Bk D AC b mb x m t5 t6 sz 53 := ⟨_, rfl, fun _ z => z⟩
set_option maxRecDepth 20000 in
theorem born_54 (D : va_G) (AC : Nat → ClassId) (b mb : Nat → Nat) (x m t5 t6 sz : Nat) : Bk D AC b mb x m t5 t6 sz 54 := ⟨_, rfl, fun _ z => z⟩
set_option maxRecDepth 20000 in
theorem born_55 (D : va_G) (AC : Nat → ClassId) (b mb : Nat → Nat) (x m t5 t6 sz : Nat) : Bk D AC b mb x m t5 t6 sz 55 := ⟨_, rfl, fun _ z => z⟩
set_option maxRecDepth 20000 in
theorem born_56 (D : va_G) (AC : Nat → ClassId) (b mb : Nat → Nat) (x m t5 t6 sz : Nat) : Bk D AC b mb x m t5 t6 sz 56 := ⟨_, rfl, fun _ z => z⟩
set_option maxRecDepth 20000 in
theorem born_57 (D : va_G) (AC : Nat → ClassId) (b mb : Nat → Nat) (x m t5 t6 sz : Nat) : Bk D AC b mb x m t5 t6 sz 57 := ⟨_, rfl, fun _ z => z⟩
set_option maxRecDepth 20000 in
theorem born_58 (D : va_G) (AC : Nat → ClassId) (b mb : Nat → Nat) (x m t5 t6 sz : Nat) : Bk D AC b mb x m t5 t6 sz 58 := ⟨_, rfl, fun _ z => z⟩
set_option maxRecDepth 20000 in
theorem born_59 (D : va_G) (AC : Nat → ClassId) (b mb : Nat → Nat) (x m t5 t6 sz : Nat) : Bk D AC b mb x m t5 t6 sz 59 := ⟨_, rfl, fun _ z => z⟩
set_option maxRecDepth 20000 in
theorem born_60 (D : va_G) (AC : Nat → ClassId) (b mb : Nat → Nat) (x m t5 t6 sz : Nat) : Bk D AC b mb x m t5 t6 sz 60 := ⟨_, rfl, fun _ z => z⟩
set_option maxRecDepth 20000 in
theorem born_61 (D : va_G) (AC : Nat → ClassId) (b mb : Nat → Nat) (x m t5 t6 sz : Nat) : Bk D AC b mb x m t5 t6 sz 61 := ⟨_, rfl, fun _ z => z⟩
set_option maxRecDepth 20000 in
theorem born_62 (D : va_G) (AC : Nat → ClassId) (b mb : Nat → Nat) (x m t5 t6 sz : Nat) : Bk D AC b mb x m t5 t6 sz 62 := ⟨_, rfl, fun _ z => z⟩
set_option maxRecDepth 20000 in
theorem born_63 (D : va_G) (AC : Nat → ClassId) (b mb : Nat → Nat) (x m t5 t6 sz : Nat) : Bk D AC b mb x m t5 t6 sz 63 := ⟨_, rfl, fun _ z => z⟩
set_option maxRecDepth 20000 in
theorem born_64 (D : va_G) (AC : Nat → ClassId) (b mb : Nat → Nat) (x m t5 t6 sz : Nat) : Bk D AC b mb x m t5 t6 sz 64 := ⟨_, rfl, fun _ z => z⟩
set_option maxRecDepth 20000 in
theorem born_65 (D : va_G) (AC : Nat → ClassId) (b mb : Nat → Nat) (x m t5 t6 sz : Nat) : Bk D AC b mb x m t5 t6 sz 65 := ⟨_, rfl, fun _ z => z⟩
set_option maxRecDepth 20000 in
theorem born_66 (D : va_G) (AC : Nat → ClassId) (b mb : Nat → Nat) (x m t5 t6 sz : Nat) : Bk D AC b mb x m t5 t6 sz 66 := ⟨_, rfl, fun _ z => z⟩
set_option maxRecDepth 20000 in
theorem born_67 (D : va_G) (AC : Nat → ClassId) (b mb : Nat → Nat) (x m t5 t6 sz : Nat) : Bk D AC b mb x m t5 t6 sz 67 := ⟨_, rfl, fun _ z => z⟩
set_option maxRecDepth 20000 in
theorem born_68 (D : va_G) (AC : Nat → ClassId) (b mb : Nat → Nat) (x m t5 t6 sz : Nat) : Bk D AC b mb x m t5 t6 sz 68 := ⟨_, rfl, fun _ z => z⟩
set_option maxRecDepth 20000 in
theorem born_69 (D : va_G) (AC : Nat → ClassId) (b mb : Nat → Nat) (x m t5 t6 sz : Nat) : Bk D AC b mb x m t5 t6 sz 69 := ⟨_, rfl, fun _ z => z⟩
set_option maxRecDepth 20000 in
theorem born_70 (D : va_G) (AC : Nat → ClassId) (b mb : Nat → Nat) (x m t5 t6 sz : Nat) : Bk D AC b mb x m t5 t6 sz 70 := ⟨_, rfl, fun _ z => z⟩
set_option maxRecDepth 20000 in
theorem born_71 (D : va_G) (AC : Nat → ClassId) (b mb : Nat → Nat) (x m t5 t6 sz : Nat) : Bk D AC b mb x m t5 t6 sz 71 := ⟨_, rfl, fun _ z => z⟩
set_option maxRecDepth 20000 in
theorem born_72 (D : va_G) (AC : Nat → ClassId) (b mb : Nat → Nat) (x m t5 t6 sz : Nat) : Bk D AC b mb x m t5 t6 sz 72 := ⟨_, rfl, fun _ z => z⟩
set_option maxRecDepth 20000 in
theorem born_73 (D : va_G) (AC : Nat → ClassId) (b mb : Nat → Nat) (x m t5 t6 sz : Nat) : Bk D AC b mb x m t5 t6 sz 73 := ⟨_, rfl, fun _ z => z⟩
set_option maxRecDepth 20000 in
theorem born_74 (D : va_G) (AC : Nat → ClassId) (b mb : Nat → Nat) (x m t5 t6 sz : Nat) : Bk D AC b mb x m t5 t6 sz 74 := ⟨_, rfl, fun _ z => z⟩
set_option maxRecDepth 20000 in
theorem born_75 (D : va_G) (AC : Nat → ClassId) (b mb : Nat → Nat) (x m t5 t6 sz : Nat) : Bk D AC b mb x m t5 t6 sz 75 := ⟨_, rfl, fun _ z => z⟩
set_option maxRecDepth 20000 in
theorem born_76 (D : va_G) (AC : Nat → ClassId) (b mb : Nat → Nat) (x m t5 t6 sz : Nat) : Bk D AC b mb x m t5 t6 sz 76 := ⟨_, rfl, fun _ z => z⟩
set_option maxRecDepth 20000 in
theorem born_77 (D : va_G) (AC : Nat → ClassId) (b mb : Nat → Nat) (x m t5 t6 sz : Nat) : Bk D AC b mb x m t5 t6 sz 77 := ⟨_, rfl, fun _ z => z⟩
set_option maxRecDepth 20000 in
theorem born_78 (D : va_G) (AC : Nat → ClassId) (b mb : Nat → Nat) (x m t5 t6 sz : Nat) : Bk D AC b mb x m t5 t6 sz 78 := ⟨_, rfl, fun _ z => z⟩
set_option maxRecDepth 20000 in
theorem born_79 (D : va_G) (AC : Nat → ClassId) (b mb : Nat → Nat) (x m t5 t6 sz : Nat) : Bk D AC b mb x m t5 t6 sz 79 := ⟨_, rfl, fun _ z => z⟩
set_option maxRecDepth 20000 in
theorem born_80 (D : va_G) (AC : Nat → ClassId) (b mb : Nat → Nat) (x m t5 t6 sz : Nat) : Bk D AC b mb x m t5 t6 sz 80 := ⟨_, rfl, at_q (fun i hi => by rcases (show i = 0 ∨ i = 1 ∨ i = 2 ∨ i = 3 by omega) with rfl | rfl | rfl | rfl <;> rfl)⟩
set_option maxRecDepth 20000 in
theorem born_81 (D : va_G) (AC : Nat → ClassId) (b mb : Nat → Nat) (x m t5 t6 sz : Nat) : Bk D AC b mb x m t5 t6 sz 81 := ⟨_, rfl, fun _ z => z⟩
set_option maxRecDepth 20000 in
theorem born_82 (D : va_G) (AC : Nat → ClassId) (b mb : Nat → Nat) (x m t5 t6 sz : Nat) : Bk D AC b mb x m t5 t6 sz 82 := ⟨_, rfl, fun _ z => z⟩
set_option maxRecDepth 20000 in
theorem born_83 (D : va_G) (AC : Nat → ClassId) (b mb : Nat → Nat) (x m t5 t6 sz : Nat) : Bk D AC b mb x m t5 t6 sz 83 := ⟨_, rfl, fun _ z => z⟩
set_option maxRecDepth 20000 in
theorem born_84 (D : va_G) (AC : Nat → ClassId) (b mb : Nat → Nat) (x m t5 t6 sz : Nat) : Bk D AC b mb x m t5 t6 sz 84 := ⟨_, rfl, fun _ z => z⟩
set_option maxRecDepth 20000 in
theorem born_85 (D : va_G) (AC : Nat → ClassId) (b mb : Nat → Nat) (x m t5 t6 sz : Nat) : Bk D AC b mb x m t5 t6 sz 85 := ⟨_, rfl, fun _ z => z⟩
set_option maxRecDepth 20000 in
theorem born_86 (D : va_G) (AC : Nat → ClassId) (b mb : Nat → Nat) (x m t5 t6 sz : Nat) : Bk D AC b mb x m t5 t6 sz 86 := ⟨_, rfl, fun _ z => z⟩
set_option maxRecDepth 20000 in
theorem born_87 (D : va_G) (AC : Nat → ClassId) (b mb : Nat → Nat) (x m t5 t6 sz : Nat) : Bk D AC b mb x m t5 t6 sz 87 := ⟨_, rfl, fun _ z => z⟩
set_option maxRecDepth 20000 in
theorem born_88 (D : va_G) (AC : Nat → ClassId) (b mb : Nat → Nat) (x m t5 t6 sz : Nat) : Bk D AC b mb x m t5 t6 sz 88 := ⟨_, rfl, fun _ z => z⟩
set_option maxRecDepth 20000 in
theorem born_89 (D : va_G) (AC : Nat → ClassId) (b mb : Nat → Nat) (x m t5 t6 sz : Nat) : Bk D AC b mb x m t5 t6 sz 89 := ⟨_, rfl, fun _ z => z⟩
set_option maxRecDepth 20000 in
theorem born_90 (D : va_G) (AC : Nat → ClassId) (b mb : Nat → Nat) (x m t5 t6 sz : Nat) : Bk D AC b mb x m t5 t6 sz 90 := ⟨_, rfl, fun _ z => z⟩
set_option maxRecDepth 20000 in
theorem born_91 (D : va_G) (AC : Nat → ClassId) (b mb : Nat → Nat) (x m t5 t6 sz : Nat) : Bk D AC b mb x m t5 t6 sz 91 := ⟨_, rfl, fun _ z => z⟩
set_option maxRecDepth 20000 in
theorem born_92 (D : va_G) (AC : Nat → ClassId) (b mb : Nat → Nat) (x m t5 t6 sz : Nat) : Bk D AC b mb x m t5 t6 sz 92 := ⟨.inl (AC 0, 416, .inl row0), rfl, fun H z => by rw [row0_eq] at z; exact z⟩
set_option maxRecDepth 20000 in
theorem born_93 (D : va_G) (AC : Nat → ClassId) (b mb : Nat → Nat) (x m t5 t6 sz : Nat) : Bk D AC b mb x m t5 t6 sz 93 := ⟨_, rfl, fun _ z => z⟩
set_option maxRecDepth 20000 in
theorem born_94 (D : va_G) (AC : Nat → ClassId) (b mb : Nat → Nat) (x m t5 t6 sz : Nat) : Bk D AC b mb x m t5 t6 sz 94 := ⟨_, rfl, fun _ z => z⟩
set_option maxRecDepth 20000 in
theorem born_95 (D : va_G) (AC : Nat → ClassId) (b mb : Nat → Nat) (x m t5 t6 sz : Nat) : Bk D AC b mb x m t5 t6 sz 95 := ⟨_, rfl, fun _ z => z⟩
set_option maxRecDepth 20000 in
theorem born_96 (D : va_G) (AC : Nat → ClassId) (b mb : Nat → Nat) (x m t5 t6 sz : Nat) : Bk D AC b mb x m t5 t6 sz 96 := ⟨_, rfl, fun _ z => z⟩
set_option maxRecDepth 20000 in
theorem born_97 (D : va_G) (AC : Nat → ClassId) (b mb : Nat → Nat) (x m t5 t6 sz : Nat) : Bk D AC b mb x m t5 t6 sz 97 := ⟨_, rfl, fun _ z => z⟩
set_option maxRecDepth 20000 in
theorem born_98 (D : va_G) (AC : Nat → ClassId) (b mb : Nat → Nat) (x m t5 t6 sz : Nat) : Bk D AC b mb x m t5 t6 sz 98 := ⟨_, rfl, fun _ z => z⟩
set_option maxRecDepth 20000 in
theorem born_99 (D : va_G) (AC : Nat → ClassId) (b mb : Nat → Nat) (x m t5 t6 sz : Nat) : Bk D AC b mb x m t5 t6 sz 99 := ⟨_, rfl, fun _ z => z⟩
set_option maxRecDepth 20000 in
theorem born_100 (D : va_G) (AC : Nat → ClassId) (b mb : Nat → Nat) (x m t5 t6 sz : Nat) : Bk D AC b mb x m t5 t6 sz 100 := ⟨_, rfl, fun _ z => z⟩
set_option maxRecDepth 20000 in
theorem born_101 (D : va_G) (AC : Nat → ClassId) (b mb : Nat → Nat) (x m t5 t6 sz : Nat) : Bk D AC b mb x m t5 t6 sz 101 := ⟨_, rfl, fun _ z => z⟩
set_option maxRecDepth 20000 in
theorem born_102 (D : va_G) (AC : Nat → ClassId) (b mb : Nat → Nat) (x m t5 t6 sz : Nat) : Bk D AC b mb x m t5 t6 sz 102 := ⟨_, rfl, fun _ z => z⟩
set_option maxRecDepth 20000 in
theorem born_103 (D : va_G) (AC : Nat → ClassId) (b mb : Nat → Nat) (x m t5 t6 sz : Nat) : Bk D AC b mb x m t5 t6 sz 103 := ⟨_, rfl, fun _ z => z⟩
set_option maxRecDepth 20000 in
theorem born_104 (D : va_G) (AC : Nat → ClassId) (b mb : Nat → Nat) (x m t5 t6 sz : Nat) : Bk D AC b mb x m t5 t6 sz 104 := ⟨_, rfl, fun _ z => z⟩
set_option maxRecDepth 20000 in
theorem born_all (D : va_G) (AC : Nat → ClassId) (b mb : Nat → Nat) (x m t5 t6 sz : Nat) : ∀ k, k < 105 → Bk D AC b mb x m t5 t6 sz k := by
  intro k hk
  have h : ∀ k ∈ ([0, 1, 2, 3, 4, 5, 6, 7, 8, 9, 10, 11, 12, 13, 14, 15, 16, 17, 18, 19, 20, 21, 22, 23, 24, 25, 26, 27, 28, 29, 30, 31, 32, 33, 34, 35, 36, 37, 38, 39, 40, 41, 42, 43, 44, 45, 46, 47, 48, 49, 50, 51, 52, 53, 54, 55, 56, 57, 58, 59, 60, 61, 62, 63, 64, 65, 66, 67, 68, 69, 70, 71, 72, 73, 74, 75, 76, 77, 78, 79, 80, 81, 82, 83, 84, 85, 86, 87, 88, 89, 90, 91, 92, 93, 94, 95, 96, 97, 98, 99, 100, 101, 102, 103, 104] : List Nat), Bk D AC b mb x m t5 t6 sz k := List.forall_mem_cons.mpr ⟨born_0 D AC b mb x m t5 t6 sz, List.forall_mem_cons.mpr ⟨born_1 D AC b mb x m t5 t6 sz, List.forall_mem_cons.mpr ⟨born_2 D AC b mb x m t5 t6 sz, List.forall_mem_cons.mpr ⟨born_3 D AC b mb x m t5 t6 sz, List.forall_mem_cons.mpr ⟨born_4 D AC b mb x m t5 t6 sz, List.forall_mem_cons.mpr ⟨born_5 D AC b mb x m t5 t6 sz, List.forall_mem_cons.mpr ⟨born_6 D AC b mb x m t5 t6 sz, List.forall_mem_cons.mpr ⟨born_7 D AC b mb x m t5 t6 sz, List.forall_mem_cons.mpr ⟨born_8 D AC b mb x m t5 t6 sz, List.forall_mem_cons.mpr ⟨born_9 D AC b mb x m t5 t6 sz, List.forall_mem_cons.mpr ⟨born_10 D AC b mb x m t5 t6 sz, List.forall_mem_cons.mpr ⟨born_11 D AC b mb x m t5 t6 sz, List.forall_mem_cons.mpr ⟨born_12 D AC b mb x m t5 t6 sz, List.forall_mem_cons.mpr ⟨born_13 D AC b mb x m t5 t6 sz, List.forall_mem_cons.mpr ⟨born_14 D AC b mb x m t5 t6 sz, List.forall_mem_cons.mpr ⟨born_15 D AC b mb x m t5 t6 sz, List.forall_mem_cons.mpr ⟨born_16 D AC b mb x m t5 t6 sz, List.forall_mem_cons.mpr ⟨born_17 D AC b mb x m t5 t6 sz, List.forall_mem_cons.mpr ⟨born_18 D AC b mb x m t5 t6 sz, List.forall_mem_cons.mpr ⟨born_19 D AC b mb x m t5 t6 sz, List.forall_mem_cons.mpr ⟨born_20 D AC b mb x m t5 t6 sz, List.forall_mem_cons.mpr ⟨born_21 D AC b mb x m t5 t6 sz, List.forall_mem_cons.mpr ⟨born_22 D AC b mb x m t5 t6 sz, List.forall_mem_cons.mpr ⟨born_23 D AC b mb x m t5 t6 sz, List.forall_mem_cons.mpr ⟨born_24 D AC b mb x m t5 t6 sz, List.forall_mem_cons.mpr ⟨born_25 D AC b mb x m t5 t6 sz, List.forall_mem_cons.mpr ⟨born_26 D AC b mb x m t5 t6 sz, List.forall_mem_cons.mpr ⟨born_27 D AC b mb x m t5 t6 sz, List.forall_mem_cons.mpr ⟨born_28 D AC b mb x m t5 t6 sz, List.forall_mem_cons.mpr ⟨born_29 D AC b mb x m t5 t6 sz, List.forall_mem_cons.mpr ⟨born_30 D AC b mb x m t5 t6 sz, List.forall_mem_cons.mpr ⟨born_31 D AC b mb x m t5 t6 sz, List.forall_mem_cons.mpr ⟨born_32 D AC b mb x m t5 t6 sz, List.forall_mem_cons.mpr ⟨born_33 D AC b mb x m t5 t6 sz, List.forall_mem_cons.mpr ⟨born_34 D AC b mb x m t5 t6 sz, List.forall_mem_cons.mpr ⟨born_35 D AC b mb x m t5 t6 sz, List.forall_mem_cons.mpr ⟨born_36 D AC b mb x m t5 t6 sz, List.forall_mem_cons.mpr ⟨born_37 D AC b mb x m t5 t6 sz, List.forall_mem_cons.mpr ⟨born_38 D AC b mb x m t5 t6 sz, List.forall_mem_cons.mpr ⟨born_39 D AC b mb x m t5 t6 sz, List.forall_mem_cons.mpr ⟨born_40 D AC b mb x m t5 t6 sz, List.forall_mem_cons.mpr ⟨born_41 D AC b mb x m t5 t6 sz, List.forall_mem_cons.mpr ⟨born_42 D AC b mb x m t5 t6 sz, List.forall_mem_cons.mpr ⟨born_43 D AC b mb x m t5 t6 sz, List.forall_mem_cons.mpr ⟨born_44 D AC b mb x m t5 t6 sz, List.forall_mem_cons.mpr ⟨born_45 D AC b mb x m t5 t6 sz, List.forall_mem_cons.mpr ⟨born_46 D AC b mb x m t5 t6 sz, List.forall_mem_cons.mpr ⟨born_47 D AC b mb x m t5 t6 sz, List.forall_mem_cons.mpr ⟨born_48 D AC b mb x m t5 t6 sz, List.forall_mem_cons.mpr ⟨born_49 D AC b mb x m t5 t6 sz, List.forall_mem_cons.mpr ⟨born_50 D AC b mb x m t5 t6 sz, List.forall_mem_cons.mpr ⟨born_51 D AC b mb x m t5 t6 sz, List.forall_mem_cons.mpr ⟨born_52 D AC b mb x m t5 t6 sz, List.forall_mem_cons.mpr ⟨born_53 D AC b mb x m t5 t6 sz, List.forall_mem_cons.mpr ⟨born_54 D AC b mb x m t5 t6 sz, List.forall_mem_cons.mpr ⟨born_55 D AC b mb x m t5 t6 sz, List.forall_mem_cons.mpr ⟨born_56 D AC b mb x m t5 t6 sz, List.forall_mem_cons.mpr ⟨born_57 D AC b mb x m t5 t6 sz, List.forall_mem_cons.mpr ⟨born_58 D AC b mb x m t5 t6 sz, List.forall_mem_cons.mpr ⟨born_59 D AC b mb x m t5 t6 sz, List.forall_mem_cons.mpr ⟨born_60 D AC b mb x m t5 t6 sz, List.forall_mem_cons.mpr ⟨born_61 D AC b mb x m t5 t6 sz, List.forall_mem_cons.mpr ⟨born_62 D AC b mb x m t5 t6 sz, List.forall_mem_cons.mpr ⟨born_63 D AC b mb x m t5 t6 sz, List.forall_mem_cons.mpr ⟨born_64 D AC b mb x m t5 t6 sz, List.forall_mem_cons.mpr ⟨born_65 D AC b mb x m t5 t6 sz, List.forall_mem_cons.mpr ⟨born_66 D AC b mb x m t5 t6 sz, List.forall_mem_cons.mpr ⟨born_67 D AC b mb x m t5 t6 sz, List.forall_mem_cons.mpr ⟨born_68 D AC b mb x m t5 t6 sz, List.forall_mem_cons.mpr ⟨born_69 D AC b mb x m t5 t6 sz, List.forall_mem_cons.mpr ⟨born_70 D AC b mb x m t5 t6 sz, List.forall_mem_cons.mpr ⟨born_71 D AC b mb x m t5 t6 sz, List.forall_mem_cons.mpr ⟨born_72 D AC b mb x m t5 t6 sz, List.forall_mem_cons.mpr ⟨born_73 D AC b mb x m t5 t6 sz, List.forall_mem_cons.mpr ⟨born_74 D AC b mb x m t5 t6 sz, List.forall_mem_cons.mpr ⟨born_75 D AC b mb x m t5 t6 sz, List.forall_mem_cons.mpr ⟨born_76 D AC b mb x m t5 t6 sz, List.forall_mem_cons.mpr ⟨born_77 D AC b mb x m t5 t6 sz, List.forall_mem_cons.mpr ⟨born_78 D AC b mb x m t5 t6 sz, List.forall_mem_cons.mpr ⟨born_79 D AC b mb x m t5 t6 sz, List.forall_mem_cons.mpr ⟨born_80 D AC b mb x m t5 t6 sz, List.forall_mem_cons.mpr ⟨born_81 D AC b mb x m t5 t6 sz, List.forall_mem_cons.mpr ⟨born_82 D AC b mb x m t5 t6 sz, List.forall_mem_cons.mpr ⟨born_83 D AC b mb x m t5 t6 sz, List.forall_mem_cons.mpr ⟨born_84 D AC b mb x m t5 t6 sz, List.forall_mem_cons.mpr ⟨born_85 D AC b mb x m t5 t6 sz, List.forall_mem_cons.mpr ⟨born_86 D AC b mb x m t5 t6 sz, List.forall_mem_cons.mpr ⟨born_87 D AC b mb x m t5 t6 sz, List.forall_mem_cons.mpr ⟨born_88 D AC b mb x m t5 t6 sz, List.forall_mem_cons.mpr ⟨born_89 D AC b mb x m t5 t6 sz, List.forall_mem_cons.mpr ⟨born_90 D AC b mb x m t5 t6 sz, List.forall_mem_cons.mpr ⟨born_91 D AC b mb x m t5 t6 sz, List.forall_mem_cons.mpr ⟨born_92 D AC b mb x m t5 t6 sz, List.forall_mem_cons.mpr ⟨born_93 D AC b mb x m t5 t6 sz, List.forall_mem_cons.mpr ⟨born_94 D AC b mb x m t5 t6 sz, List.forall_mem_cons.mpr ⟨born_95 D AC b mb x m t5 t6 sz, List.forall_mem_cons.mpr ⟨born_96 D AC b mb x m t5 t6 sz, List.forall_mem_cons.mpr ⟨born_97 D AC b mb x m t5 t6 sz, List.forall_mem_cons.mpr ⟨born_98 D AC b mb x m t5 t6 sz, List.forall_mem_cons.mpr ⟨born_99 D AC b mb x m t5 t6 sz, List.forall_mem_cons.mpr ⟨born_100 D AC b mb x m t5 t6 sz, List.forall_mem_cons.mpr ⟨born_101 D AC b mb x m t5 t6 sz, List.forall_mem_cons.mpr ⟨born_102 D AC b mb x m t5 t6 sz, List.forall_mem_cons.mpr ⟨born_103 D AC b mb x m t5 t6 sz, List.forall_mem_cons.mpr ⟨born_104 D AC b mb x m t5 t6 sz, fun _ h => absurd h List.not_mem_nil⟩⟩⟩⟩⟩⟩⟩⟩⟩⟩⟩⟩⟩⟩⟩⟩⟩⟩⟩⟩⟩⟩⟩⟩⟩⟩⟩⟩⟩⟩⟩⟩⟩⟩⟩⟩⟩⟩⟩⟩⟩⟩⟩⟩⟩⟩⟩⟩⟩⟩⟩⟩⟩⟩⟩⟩⟩⟩⟩⟩⟩⟩⟩⟩⟩⟩⟩⟩⟩⟩⟩⟩⟩⟩⟩⟩⟩⟩⟩⟩⟩⟩⟩⟩⟩⟩⟩⟩⟩⟩⟩⟩⟩⟩⟩⟩⟩⟩⟩⟩⟩⟩⟩⟩⟩
  exact h k (by rw [show ([0, 1, 2, 3, 4, 5, 6, 7, 8, 9, 10, 11, 12, 13, 14, 15, 16, 17, 18, 19, 20, 21, 22, 23, 24, 25, 26, 27, 28, 29, 30, 31, 32, 33, 34, 35, 36, 37, 38, 39, 40, 41, 42, 43, 44, 45, 46, 47, 48, 49, 50, 51, 52, 53, 54, 55, 56, 57, 58, 59, 60, 61, 62, 63, 64, 65, 66, 67, 68, 69, 70, 71, 72, 73, 74, 75, 76, 77, 78, 79, 80, 81, 82, 83, 84, 85, 86, 87, 88, 89, 90, 91, 92, 93, 94, 95, 96, 97, 98, 99, 100, 101, 102, 103, 104] : List Nat) = List.range 105 from by decide +kernel]; exact List.mem_range.mpr hk)
theorem posl_nd : va_nd posl = true := by decide +kernel
theorem wl_lt {g : GT} {M : Mem} {k : Nat} {q : Nat × va_E} (h : (wl g M)[k]? = some q) : k < 105 := by
  have := (List.getElem?_eq_some_iff.mp h).1
  simpa [wl] using this
theorem born_P (D : va_G) (AC : Nat → ClassId) (b mb : Nat → Nat) (x m t5 t6 sz : Nat) {H : Heap} (h : va_P D vwCl (bornL AC b mb x m) H) : va_P D vwCl (wl (gB D AC b mb x m t5 t6 sz) M0) H := fun k q hk => by
  have h1 := wl_lt hk
  rw [wl_get _ _ h1] at hk
  cases hk
  obtain ⟨e, h2, h3⟩ := born_all D AC b mb x m t5 t6 sz k h1
  rw [born_flat] at h
  exact h3 H (h _ _ h2)
theorem born_D (D : va_G) (AC : Nat → ClassId) (b mb : Nat → Nat) (x m t5 t6 sz : Nat) {A : Nat → Prop} (h : va_D A (bornL AC b mb x m)) : va_D A (wl (gB D AC b mb x m t5 t6 sz) M0) := by
  rw [born_flat] at h
  have key : ∀ (k : Nat) (q : Nat × va_E), (wl (gB D AC b mb x m t5 t6 sz) M0)[k]? = some q → k < 105 ∧ ∃ q' : Nat × va_E, (flatL AC b mb x m)[posl.getD k 0]? = some q' ∧ q'.1 = q.1 := fun k q hk => by
    have h1 := wl_lt hk
    rw [wl_get _ _ h1] at hk
    cases hk
    obtain ⟨e, h2, -⟩ := born_all D AC b mb x m t5 t6 sz k h1
    exact ⟨h1, _, h2, rfl⟩
  refine ⟨fun i j p q hp hq hpq => ?_, fun k q hk => ?_⟩
  · obtain ⟨i1, p', i2, i3⟩ := key i p hp
    obtain ⟨j1, q', j2, j3⟩ := key j q hq
    have e := h.1 _ _ p' q' i2 j2 (by rw [i3, j3, hpq])
    have hl : posl.length = 105 := rfl
    have gi : posl[i]? = some (posl.getD i 0) := by rw [List.getD_eq_getElem?_getD, List.getElem?_eq_getElem (by omega)]; rfl
    have gj : posl[j]? = some (posl.getD i 0) := by rw [e, List.getD_eq_getElem?_getD, List.getElem?_eq_getElem (by omega)]; rfl
    exact va_nd_inj posl posl_nd i j _ gi gj
  · obtain ⟨-, q', i2, i3⟩ := key k q hk
    rw [← i3]; exact h.2 _ q' i2
theorem M0_sh {s : Nat} (hs : s < 4) : Sh M0 s := by
  rcases (show s = 0 ∨ s = 1 ∨ s = 2 ∨ s = 3 by omega) with rfl | rfl | rfl | rfl
  all_goals exact ⟨rfl, Or.inl rfl, 0, rfl, rfl, by decide, fun k hk => rfl⟩
theorem Rel_M0 : Rel M0 := by
  refine ⟨⟨⟨0, rfl, rfl, by decide, fun i hi => absurd hi (Nat.not_lt_zero _)⟩, ⟨0, 5, rfl, rfl, by decide, rfl, rfl, by decide, by decide, rfl⟩, ⟨0, rfl, rfl, by decide, fun i hi => absurd hi (Nat.not_lt_zero _)⟩, ⟨0, rfl, rfl, by decide, fun i hi => absurd hi (Nat.not_lt_zero _)⟩, ⟨0, rfl, rfl, by decide, fun h => absurd h (by decide), fun k hk => absurd hk (Nat.not_lt_zero _)⟩, ⟨0, rfl, rfl, by decide, fun h => absurd h (by decide), fun k hk => absurd hk (Nat.not_lt_zero _)⟩⟩, rfl, fun h => absurd rfl h, fun k _ _ => rfl, fun s hs => M0_sh hs, ⟨0, rfl, rfl, by decide, fun k hk => absurd hk (Nat.not_lt_zero _)⟩⟩
