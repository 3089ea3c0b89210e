-- the constructors
def rq (n : Nat) (h : Nat → Nat) : Nat → Option Nat := fun i => if i < n then some (h i) else none
theorem rq_cg {n : Nat} {h h2 : Nat → Nat} (e : ∀ i, i < n → h i = h2 i) : rq n h = rq n h2 := by
  funext i
  unfold rq
  by_cases c : i < n
  · rw [if_pos c, if_pos c, e i c]
  · rw [if_neg c, if_neg c]
theorem rq_up (n : Nat) (h : Nat → Nat) (v : Nat) : va_up (rq n h) n (some v) = rq (n + 1) (va_up h n v) := by
  funext i
  unfold rq
  by_cases c : i = n
  · subst c; rw [va_up_self, if_pos (by omega), va_up_self]
  · rw [va_up_ne _ _ c]
    by_cases c2 : i < n
    · rw [if_pos c2, if_pos (by omega), va_up_ne _ _ c]
    · rw [if_neg c2, if_neg (by omega)]
theorem rq_0 (h : Nat → Nat) : (fun _ => none : Nat → Option Nat) = rq 0 h := by
  funext i; unfold rq; rw [if_neg (by omega)]
def fcat (n : Nat) (f g : Nat → Nat) : Nat → Nat := fun k => if k < n then f k else g (k - n)
theorem fcat_lt {n : Nat} {f g : Nat → Nat} {k : Nat} (h : k < n) : f k = fcat n f g k := (if_pos h).symm
theorem p_last {R : va_W} {x : Nat × va_E} : List.Perm (R ++ [x]) (x :: R) := by
  have := List.perm_middle (l₁ := R) (l₂ := []) (a := x)
  rwa [List.append_nil] at this
abbrev eI (AC : Nat → ClassId) (n : Nat) : va_E := .inl (AC 0, n, .inl (fun _ => 0))
abbrev eB (AC : Nat → ClassId) (n : Nat) : va_E := .inl (AC 1, n, .inl (fun _ => 0))
abbrev eZ (AC : Nat → ClassId) (n : Nat) : va_E := .inl (AC 2, n, .inl (fun _ => 0))
abbrev eQ (AC : Nat → ClassId) (t n : Nat) (h : Nat → Nat) : va_E := .inl (AC t, n, .inr (.inr (.inr (.inr (rq n h)))))
theorem eQ_cg {AC : Nat → ClassId} {t n : Nat} {h h2 : Nat → Nat} (e : ∀ i, i < n → h i = h2 i) : eQ AC t n h = eQ AC t n h2 := by
  have := rq_cg e
  simp only [eQ, this]
abbrev eF : va_E := .inr (2, [.int 0, .int 0, .int 1, .int 0, .int 0, .int 0, .int 0])
abbrev eL (p s : Nat) : va_E := .inr (3, [.ref p, .int 0, .ref s, .int 0])
def fieldW (AC : Nat → ClassId) (h0 : Nat) (b : Nat → Nat) : va_W := (h0, .inr (1, [.ref (b 12), .int 0, .int 0, .int 5, .int 1])) :: (b 12, eQ AC 3 12 b) :: (List.range 12).map (fun i => (b i, eF))
theorem fieldW_cg {AC : Nat → ClassId} {h0 : Nat} {b b2 : Nat → Nat} (e : ∀ i, i < 13 → b i = b2 i) : fieldW AC h0 b = fieldW AC h0 b2 := by
  unfold fieldW
  rw [e 12 (by decide), eQ_cg (n := 12) (h := b) (h2 := b2) (fun i hi => e i (by omega)), List.map_congr_left (fun i hi => by rw [e i (by have := List.mem_range.mp hi; omega)])]
def lawW (AC : Nat → ClassId) (h0 : Nat) (b : Nat → Nat) : va_W := [(h0, eL (b 0) (b 1)), (b 0, eI AC 60), (b 1, eI AC 60)]
def chainsW (AC : Nat → ClassId) (h0 : Nat) (b : Nat → Nat) : va_W := [(h0, .inr (0, [.ref (b 0)])), (b 0, eI AC 12)]
def scaleW (AC : Nat → ClassId) (n h0 : Nat) (b : Nat → Nat) : va_W := [(h0, .inr (4, [.ref (b 0), .ref (b 1), .ref (b 2)])), (b 0, eI AC n), (b 1, eI AC n), (b 2, eZ AC n)]
def sheetW (AC : Nat → ClassId) (h0 : Nat) (b : Nat → Nat) : va_W := [(h0, .inr (5, [.ref (b 0), .int 0, .int 0])), (b 0, eI AC 24)]
def speakW (AC : Nat → ClassId) (h0 : Nat) (b : Nat → Nat) : va_W := [(h0, .inr (6, [.ref (b 0), .int 0, .int 0, .int 0, .int 0, .int 0])), (b 0, eI AC 30)]
def readW (AC : Nat → ClassId) (h0 : Nat) (b : Nat → Nat) : va_W := [(h0, .inr (7, [.ref (b 0), .int 0, .ref (b 3), .int 0, .int 0])), (b 0, eL (b 1) (b 2)), (b 1, eI AC 60), (b 2, eI AC 60), (b 3, eB AC 0)]
def worldW (AC : Nat → ClassId) (h0 : Nat) (b : Nat → Nat) : va_W := (h0, .inr (8, [.ref (b 13), .ref (b 14), .ref (b 15), .int 0, .ref (b 16), .int 0])) :: (b 14, eQ AC 4 2 (fun j => b (17 + j))) :: (b 18, eL (b 21) (b 22)) :: (((b 17, eL (b 19) (b 20)) :: (((fieldW AC (b 13) b ++ [(b 15, eB AC 60)]) ++ [(b 16, eI AC 24)]) ++ [(b 19, eI AC 60), (b 20, eI AC 60)])) ++ [(b 21, eI AC 60), (b 22, eI AC 60)])
theorem worldW_cg {AC : Nat → ClassId} {h0 : Nat} {b b2 : Nat → Nat} (e : ∀ i, i < 23 → b i = b2 i) : worldW AC h0 b = worldW AC h0 b2 := by
  unfold worldW
  rw [fieldW_cg (b := b) (b2 := b2) (fun i hi => e i (by omega)), eQ_cg (n := 2) (h := fun j => b (17 + j)) (h2 := fun j => b2 (17 + j)) (fun i hi => e (17 + i) (by omega))]
  simp only [e 13 (by decide), e 14 (by decide), e 15 (by decide), e 16 (by decide), e 17 (by decide), e 18 (by decide), e 19 (by decide), e 20 (by decide), e 21 (by decide), e 22 (by decide)]
section NK
variable {p : Program} {l : Launch} {e : Env} {R : Room} {s : State} {m : MethodId} {args : Array Value} {below : List Frame} {meth : Method} {c : Code} {D : va_G} {nL : Nat} {A : Nat → Prop} {Q : State → Prop} {X : va_W} {cells slots pc : Nat} {lo : List (Nat × Value)} {st : List Value}
theorem n_X {Y : va_W} (h : X = Y) (k : NK p l e R s m args below meth c D nL A Q Y cells slots pc lo st) : NK p l e R s m args below meth c D nL A Q X cells slots pc lo st := h ▸ k
theorem n_cs {cells2 slots2 : Nat} (h1 : cells = cells2) (h2 : slots = slots2) (k : NK p l e R s m args below meth c D nL A Q X cells2 slots2 pc lo st) : NK p l e R s m args below meth c D nL A Q X cells slots pc lo st := by subst h1; subst h2; exact k
end NK
set_option maxHeartbeats 4000000 in
set_option maxRecDepth 20000 in
theorem zX2_init (l : Launch) (D : va_G) (AC : Nat → ClassId) (h0 : Nat) : CtrN l D AC yX2_init cX2_init 1 0 0 0 [] h0 (.inr (2, [.int 0, .int 0, .int 0, .int 0, .int 0, .int 0, .int 0])) (fun b => [(h0, eF)]) := by
  refine ctrN_of (by decide +kernel) rfl (Nat.le_of_ble_eq_true rfl) ?_
  intro p e R s m args below meth c N hin hret hlk
  refine n_lo (lo' := [(0, .ref h0)]) rfl ?_
  refine n_aload N 1 0 rfl rfl dX2_init_0 rfl ?_
  refine n_obj N 4 mwX2_3 (by decide) dX2_init_1 rfl ?_
  refine n_aload N 5 0 rfl rfl dX2_init_4 rfl ?_
  refine n_iconst N 6 (v := 1) (by decide) dX2_init_5 rfl ?_
  refine n_put N 9 flX2_9 plX2 rfl rfl rfl (Nat.le_of_ble_eq_true rfl) dX2_init_6 rfl ?_
  refine n_X (Y := (h0, .inr (2, [.int 0, .int 0, .int 1, .int 0, .int 0, .int 0, .int 0])) :: []) rfl ?_
  exact n_ret N hret hlk (fun _ => 0) (List.Perm.refl _) (Nat.le_of_ble_eq_true rfl) (Nat.le_of_ble_eq_true rfl) dX2_init_9
set_option maxHeartbeats 4000000 in
set_option maxRecDepth 20000 in
theorem zX0_init (l : Launch) (D : va_G) (AC : Nat → ClassId) (h0 : Nat) : CtrN l D AC yX0_init cX0_init 1 0 1 12 [] h0 (.inr (0, [.null])) (fun b => chainsW AC h0 b) := by
  refine ctrN_of (by decide +kernel) rfl (Nat.le_of_ble_eq_true rfl) ?_
  intro p e R s m args below meth c N hin hret hlk
  refine n_lo (lo' := [(0, .ref h0)]) rfl ?_
  refine n_aload N 1 0 rfl rfl dX0_init_0 rfl ?_
  refine n_obj N 4 mwX0_3 (by decide) dX0_init_1 rfl ?_
  refine n_aload N 5 0 rfl rfl dX0_init_4 rfl ?_
  refine n_bipush N 7 (v := 12) (by decide) dX0_init_5 rfl ?_
  refine n_newa N 9 0 (atype := .int) (ty := .int) (n' := 12) (a0 := (12, .inl (fun _ => 0))) (wA_sub_1 _ (List.mem_of_getElem? (i := 75) (by decide +kernel))) rfl rfl (fun _ => rfl) (by decide) (by decide) (Nat.le_of_ble_eq_true rfl) (Nat.le_of_ble_eq_true rfl) (Nat.le_of_ble_eq_true rfl) dX0_init_7 rfl (fun x0 => ?_)
  refine n_X (Y := (h0, .inr (0, [.null])) :: [(x0, eI AC 12)]) rfl ?_
  refine n_putF N hin 12 flX0_9 plX0 rfl rfl rfl rfl (Nat.le_of_ble_eq_true rfl) dX0_init_9 rfl ?_
  refine n_X (Y := (h0, .inr (0, [.ref x0])) :: [(x0, eI AC 12)]) rfl ?_
  exact n_ret N hret hlk (fun k => ([x0] : List Nat).getD k 0) (List.Perm.refl _) (Nat.le_of_ble_eq_true rfl) (Nat.le_of_ble_eq_true rfl) dX0_init_12
set_option maxHeartbeats 4000000 in
set_option maxRecDepth 20000 in
theorem zX3_init (l : Launch) (D : va_G) (AC : Nat → ClassId) (h0 : Nat) : CtrN l D AC yX3_init cX3_init 1 0 2 120 [] h0 (.inr (3, [.null, .int 0, .null, .int 0])) (fun b => lawW AC h0 b) := by
  refine ctrN_of (by decide +kernel) rfl (Nat.le_of_ble_eq_true rfl) ?_
  intro p e R s m args below meth c N hin hret hlk
  refine n_lo (lo' := [(0, .ref h0)]) rfl ?_
  refine n_aload N 1 0 rfl rfl dX3_init_0 rfl ?_
  refine n_obj N 4 mwX3_3 (by decide) dX3_init_1 rfl ?_
  refine n_aload N 5 0 rfl rfl dX3_init_4 rfl ?_
  refine n_bipush N 7 (v := 60) (by decide) dX3_init_5 rfl ?_
  refine n_newa N 9 0 (atype := .int) (ty := .int) (n' := 60) (a0 := (60, .inl (fun _ => 0))) (wA_sub_1 _ (List.mem_of_getElem? (i := 75) (by decide +kernel))) rfl rfl (fun _ => rfl) (by decide) (by decide) (Nat.le_of_ble_eq_true rfl) (Nat.le_of_ble_eq_true rfl) (Nat.le_of_ble_eq_true rfl) dX3_init_7 rfl (fun x0 => ?_)
  refine n_X (Y := (h0, .inr (3, [.null, .int 0, .null, .int 0])) :: [(x0, eI AC 60)]) rfl ?_
  refine n_putF N hin 12 flX3_9 plX3 rfl rfl rfl rfl (Nat.le_of_ble_eq_true rfl) dX3_init_9 rfl ?_
  refine n_X (Y := (h0, .inr (3, [.ref x0, .int 0, .null, .int 0])) :: [(x0, eI AC 60)]) rfl ?_
  refine n_aload N 13 0 rfl rfl dX3_init_12 rfl ?_
  refine n_bipush N 15 (v := 60) (by decide) dX3_init_13 rfl ?_
  refine n_newa N 17 0 (atype := .int) (ty := .int) (n' := 60) (a0 := (60, .inl (fun _ => 0))) (wA_sub_1 _ (List.mem_of_getElem? (i := 75) (by decide +kernel))) rfl rfl (fun _ => rfl) (by decide) (by decide) (Nat.le_of_ble_eq_true rfl) (Nat.le_of_ble_eq_true rfl) (Nat.le_of_ble_eq_true rfl) dX3_init_15 rfl (fun x1 => ?_)
  refine n_X (Y := (h0, .inr (3, [.ref x0, .int 0, .null, .int 0])) :: ([(x0, eI AC 60)] ++ [(x1, eI AC 60)])) rfl ?_
  refine n_putF N hin 20 flX3_15 plX3 rfl rfl rfl rfl (Nat.le_of_ble_eq_true rfl) dX3_init_17 rfl ?_
  refine n_X (Y := (h0, .inr (3, [.ref x0, .int 0, .ref x1, .int 0])) :: ([(x0, eI AC 60)] ++ [(x1, eI AC 60)])) rfl ?_
  exact n_ret N hret hlk (fun k => ([x0, x1] : List Nat).getD k 0) (List.Perm.refl _) (Nat.le_of_ble_eq_true rfl) (Nat.le_of_ble_eq_true rfl) dX3_init_20
set_option maxHeartbeats 4000000 in
set_option maxRecDepth 20000 in
theorem zX5_init (l : Launch) (D : va_G) (AC : Nat → ClassId) (h0 : Nat) : CtrN l D AC yX5_init cX5_init 1 0 1 24 [] h0 (.inr (5, [.null, .int 0, .int 0])) (fun b => sheetW AC h0 b) := by
  refine ctrN_of (by decide +kernel) rfl (Nat.le_of_ble_eq_true rfl) ?_
  intro p e R s m args below meth c N hin hret hlk
  refine n_lo (lo' := [(0, .ref h0)]) rfl ?_
  refine n_aload N 1 0 rfl rfl dX5_init_0 rfl ?_
  refine n_obj N 4 mwX5_3 (by decide) dX5_init_1 rfl ?_
  refine n_aload N 5 0 rfl rfl dX5_init_4 rfl ?_
  refine n_bipush N 7 (v := 24) (by decide) dX5_init_5 rfl ?_
  refine n_newa N 9 0 (atype := .int) (ty := .int) (n' := 24) (a0 := (24, .inl (fun _ => 0))) (wA_sub_1 _ (List.mem_of_getElem? (i := 75) (by decide +kernel))) rfl rfl (fun _ => rfl) (by decide) (by decide) (Nat.le_of_ble_eq_true rfl) (Nat.le_of_ble_eq_true rfl) (Nat.le_of_ble_eq_true rfl) dX5_init_7 rfl (fun x0 => ?_)
  refine n_X (Y := (h0, .inr (5, [.null, .int 0, .int 0])) :: [(x0, eI AC 24)]) rfl ?_
  refine n_putF N hin 12 flX5_9 plX5 rfl rfl rfl rfl (Nat.le_of_ble_eq_true rfl) dX5_init_9 rfl ?_
  refine n_X (Y := (h0, .inr (5, [.ref x0, .int 0, .int 0])) :: [(x0, eI AC 24)]) rfl ?_
  exact n_ret N hret hlk (fun k => ([x0] : List Nat).getD k 0) (List.Perm.refl _) (Nat.le_of_ble_eq_true rfl) (Nat.le_of_ble_eq_true rfl) dX5_init_12
set_option maxHeartbeats 4000000 in
set_option maxRecDepth 20000 in
theorem zX6_init (l : Launch) (D : va_G) (AC : Nat → ClassId) (h0 : Nat) : CtrN l D AC yX6_init cX6_init 1 0 1 30 [] h0 (.inr (6, [.null, .int 0, .int 0, .int 0, .int 0, .int 0])) (fun b => speakW AC h0 b) := by
  refine ctrN_of (by decide +kernel) rfl (Nat.le_of_ble_eq_true rfl) ?_
  intro p e R s m args below meth c N hin hret hlk
  refine n_lo (lo' := [(0, .ref h0)]) rfl ?_
  refine n_aload N 1 0 rfl rfl dX6_init_0 rfl ?_
  refine n_obj N 4 mwX6_3 (by decide) dX6_init_1 rfl ?_
  refine n_aload N 5 0 rfl rfl dX6_init_4 rfl ?_
  refine n_bipush N 7 (v := 30) (by decide) dX6_init_5 rfl ?_
  refine n_newa N 9 0 (atype := .int) (ty := .int) (n' := 30) (a0 := (30, .inl (fun _ => 0))) (wA_sub_1 _ (List.mem_of_getElem? (i := 75) (by decide +kernel))) rfl rfl (fun _ => rfl) (by decide) (by decide) (Nat.le_of_ble_eq_true rfl) (Nat.le_of_ble_eq_true rfl) (Nat.le_of_ble_eq_true rfl) dX6_init_7 rfl (fun x0 => ?_)
  refine n_X (Y := (h0, .inr (6, [.null, .int 0, .int 0, .int 0, .int 0, .int 0])) :: [(x0, eI AC 30)]) rfl ?_
  refine n_putF N hin 12 flX6_9 plX6 rfl rfl rfl rfl (Nat.le_of_ble_eq_true rfl) dX6_init_9 rfl ?_
  refine n_X (Y := (h0, .inr (6, [.ref x0, .int 0, .int 0, .int 0, .int 0, .int 0])) :: [(x0, eI AC 30)]) rfl ?_
  exact n_ret N hret hlk (fun k => ([x0] : List Nat).getD k 0) (List.Perm.refl _) (Nat.le_of_ble_eq_true rfl) (Nat.le_of_ble_eq_true rfl) dX6_init_12
set_option maxHeartbeats 4000000 in
set_option maxRecDepth 20000 in
theorem zX4_init12 (l : Launch) (D : va_G) (AC : Nat → ClassId) (h0 : Nat) : CtrN l D AC yX4_init cX4_init 2 0 3 36 [.int 12] h0 (.inr (4, [.null, .null, .null])) (fun b => scaleW AC 12 h0 b) := by
  refine ctrN_of (by decide +kernel) rfl (Nat.le_of_ble_eq_true rfl) ?_
  intro p e R s m args below meth c N hin hret hlk
  refine n_lo (lo' := [(0, .ref h0), (1, .int 12)]) rfl ?_
  refine n_aload N 1 0 rfl rfl dX4_init_0 rfl ?_
  refine n_obj N 4 mwX4_1 (by decide) dX4_init_1 rfl ?_
  refine n_aload N 5 0 rfl rfl dX4_init_4 rfl ?_
  refine n_iload N 6 1 rfl rfl dX4_init_5 rfl ?_
  refine n_newa N 8 0 (atype := .int) (ty := .int) (n' := 12) (a0 := (12, .inl (fun _ => 0))) (wA_sub_1 _ (List.mem_of_getElem? (i := 75) (by decide +kernel))) rfl rfl (fun _ => rfl) (by decide) (by decide) (Nat.le_of_ble_eq_true rfl) (Nat.le_of_ble_eq_true rfl) (Nat.le_of_ble_eq_true rfl) dX4_init_6 rfl (fun x0 => ?_)
  refine n_X (Y := (h0, .inr (4, [.null, .null, .null])) :: [(x0, eI AC 12)]) rfl ?_
  refine n_putF N hin 11 flX4_7 plX4 rfl rfl rfl rfl (Nat.le_of_ble_eq_true rfl) dX4_init_8 rfl ?_
  refine n_X (Y := (h0, .inr (4, [.ref x0, .null, .null])) :: [(x0, eI AC 12)]) rfl ?_
  refine n_aload N 12 0 rfl rfl dX4_init_11 rfl ?_
  refine n_iload N 13 1 rfl rfl dX4_init_12 rfl ?_
  refine n_newa N 15 0 (atype := .int) (ty := .int) (n' := 12) (a0 := (12, .inl (fun _ => 0))) (wA_sub_1 _ (List.mem_of_getElem? (i := 75) (by decide +kernel))) rfl rfl (fun _ => rfl) (by decide) (by decide) (Nat.le_of_ble_eq_true rfl) (Nat.le_of_ble_eq_true rfl) (Nat.le_of_ble_eq_true rfl) dX4_init_13 rfl (fun x1 => ?_)
  refine n_X (Y := (h0, .inr (4, [.ref x0, .null, .null])) :: ([(x0, eI AC 12)] ++ [(x1, eI AC 12)])) rfl ?_
  refine n_putF N hin 18 flX4_13 plX4 rfl rfl rfl rfl (Nat.le_of_ble_eq_true rfl) dX4_init_15 rfl ?_
  refine n_X (Y := (h0, .inr (4, [.ref x0, .ref x1, .null])) :: ([(x0, eI AC 12)] ++ [(x1, eI AC 12)])) rfl ?_
  refine n_aload N 19 0 rfl rfl dX4_init_18 rfl ?_
  refine n_iload N 20 1 rfl rfl dX4_init_19 rfl ?_
  refine n_newa N 22 2 (atype := .boolean) (ty := .boolean) (n' := 12) (a0 := (12, .inl (fun _ => 0))) (wA_sub_2 _ (List.mem_of_getElem? (i := 18) (by decide +kernel))) rfl rfl (fun _ => rfl) (by decide) (by decide) (Nat.le_of_ble_eq_true rfl) (Nat.le_of_ble_eq_true rfl) (Nat.le_of_ble_eq_true rfl) dX4_init_20 rfl (fun x2 => ?_)
  refine n_X (Y := (h0, .inr (4, [.ref x0, .ref x1, .null])) :: (([(x0, eI AC 12)] ++ [(x1, eI AC 12)]) ++ [(x2, eZ AC 12)])) rfl ?_
  refine n_putF N hin 25 flX4_16 plX4 rfl rfl rfl rfl (Nat.le_of_ble_eq_true rfl) dX4_init_22 rfl ?_
  refine n_X (Y := (h0, .inr (4, [.ref x0, .ref x1, .ref x2])) :: (([(x0, eI AC 12)] ++ [(x1, eI AC 12)]) ++ [(x2, eZ AC 12)])) rfl ?_
  exact n_ret N hret hlk (fun k => ([x0, x1, x2] : List Nat).getD k 0) (List.Perm.refl _) (Nat.le_of_ble_eq_true rfl) (Nat.le_of_ble_eq_true rfl) dX4_init_25
set_option maxHeartbeats 4000000 in
set_option maxRecDepth 20000 in
theorem zX4_init6 (l : Launch) (D : va_G) (AC : Nat → ClassId) (h0 : Nat) : CtrN l D AC yX4_init cX4_init 2 0 3 18 [.int 6] h0 (.inr (4, [.null, .null, .null])) (fun b => scaleW AC 6 h0 b) := by
  refine ctrN_of (by decide +kernel) rfl (Nat.le_of_ble_eq_true rfl) ?_
  intro p e R s m args below meth c N hin hret hlk
  refine n_lo (lo' := [(0, .ref h0), (1, .int 6)]) rfl ?_
  refine n_aload N 1 0 rfl rfl dX4_init_0 rfl ?_
  refine n_obj N 4 mwX4_1 (by decide) dX4_init_1 rfl ?_
  refine n_aload N 5 0 rfl rfl dX4_init_4 rfl ?_
  refine n_iload N 6 1 rfl rfl dX4_init_5 rfl ?_
  refine n_newa N 8 0 (atype := .int) (ty := .int) (n' := 6) (a0 := (6, .inl (fun _ => 0))) (wA_sub_1 _ (List.mem_of_getElem? (i := 75) (by decide +kernel))) rfl rfl (fun _ => rfl) (by decide) (by decide) (Nat.le_of_ble_eq_true rfl) (Nat.le_of_ble_eq_true rfl) (Nat.le_of_ble_eq_true rfl) dX4_init_6 rfl (fun x0 => ?_)
  refine n_X (Y := (h0, .inr (4, [.null, .null, .null])) :: [(x0, eI AC 6)]) rfl ?_
  refine n_putF N hin 11 flX4_7 plX4 rfl rfl rfl rfl (Nat.le_of_ble_eq_true rfl) dX4_init_8 rfl ?_
  refine n_X (Y := (h0, .inr (4, [.ref x0, .null, .null])) :: [(x0, eI AC 6)]) rfl ?_
  refine n_aload N 12 0 rfl rfl dX4_init_11 rfl ?_
  refine n_iload N 13 1 rfl rfl dX4_init_12 rfl ?_
  refine n_newa N 15 0 (atype := .int) (ty := .int) (n' := 6) (a0 := (6, .inl (fun _ => 0))) (wA_sub_1 _ (List.mem_of_getElem? (i := 75) (by decide +kernel))) rfl rfl (fun _ => rfl) (by decide) (by decide) (Nat.le_of_ble_eq_true rfl) (Nat.le_of_ble_eq_true rfl) (Nat.le_of_ble_eq_true rfl) dX4_init_13 rfl (fun x1 => ?_)
  refine n_X (Y := (h0, .inr (4, [.ref x0, .null, .null])) :: ([(x0, eI AC 6)] ++ [(x1, eI AC 6)])) rfl ?_
  refine n_putF N hin 18 flX4_13 plX4 rfl rfl rfl rfl (Nat.le_of_ble_eq_true rfl) dX4_init_15 rfl ?_
  refine n_X (Y := (h0, .inr (4, [.ref x0, .ref x1, .null])) :: ([(x0, eI AC 6)] ++ [(x1, eI AC 6)])) rfl ?_
  refine n_aload N 19 0 rfl rfl dX4_init_18 rfl ?_
  refine n_iload N 20 1 rfl rfl dX4_init_19 rfl ?_
  refine n_newa N 22 2 (atype := .boolean) (ty := .boolean) (n' := 6) (a0 := (6, .inl (fun _ => 0))) (wA_sub_2 _ (List.mem_of_getElem? (i := 18) (by decide +kernel))) rfl rfl (fun _ => rfl) (by decide) (by decide) (Nat.le_of_ble_eq_true rfl) (Nat.le_of_ble_eq_true rfl) (Nat.le_of_ble_eq_true rfl) dX4_init_20 rfl (fun x2 => ?_)
  refine n_X (Y := (h0, .inr (4, [.ref x0, .ref x1, .null])) :: (([(x0, eI AC 6)] ++ [(x1, eI AC 6)]) ++ [(x2, eZ AC 6)])) rfl ?_
  refine n_putF N hin 25 flX4_16 plX4 rfl rfl rfl rfl (Nat.le_of_ble_eq_true rfl) dX4_init_22 rfl ?_
  refine n_X (Y := (h0, .inr (4, [.ref x0, .ref x1, .ref x2])) :: (([(x0, eI AC 6)] ++ [(x1, eI AC 6)]) ++ [(x2, eZ AC 6)])) rfl ?_
  exact n_ret N hret hlk (fun k => ([x0, x1, x2] : List Nat).getD k 0) (List.Perm.refl _) (Nat.le_of_ble_eq_true rfl) (Nat.le_of_ble_eq_true rfl) dX4_init_25
set_option maxHeartbeats 4000000 in
set_option maxRecDepth 20000 in
theorem zX7_init (l : Launch) (D : va_G) (AC : Nat → ClassId) (h0 : Nat) : CtrN l D AC yX7_init cX7_init 1 1 4 124 [] h0 (.inr (7, [.null, .int 0, .null, .int 0, .int 0])) (fun b => readW AC h0 b) := by
  refine ctrN_of (by decide +kernel) rfl (Nat.le_of_ble_eq_true rfl) ?_
  intro p e R s m args below meth c N hin hret hlk
  refine n_lo (lo' := [(0, .ref h0)]) rfl ?_
  refine n_aload N 1 0 rfl rfl dX7_init_0 rfl ?_
  refine n_obj N 4 mwX7_3 (by decide) dX7_init_1 rfl ?_
  refine n_aload N 5 0 rfl rfl dX7_init_4 rfl ?_
  refine n_new N 8 (ci := 3) (fs := [.null, .int 0, .null, .int 0]) (wA_sub_2 _ (List.mem_of_getElem? (i := 24) (by decide +kernel))) (wA_sub_1 _ (List.mem_of_getElem? (i := 62) (by decide +kernel))) (wA_sub_0 _ (List.mem_of_getElem? (i := 80) (by decide +kernel))) inX3 plX3 rfl (fun j hj => by rcases (show j = 0 ∨ j = 1 ∨ j = 2 ∨ j = 3 by omega) with rfl | rfl | rfl | rfl <;> rfl) (Nat.le_of_ble_eq_true rfl) (Nat.le_of_ble_eq_true rfl) dX7_init_5 rfl (fun x0 => ?_)
  refine n_dup N 9 rfl dX7_init_8 rfl ?_
  refine n_X (Y := ((h0, .inr (7, [.null, .int 0, .null, .int 0, .int 0])) :: []) ++ [(x0, .inr (3, [.null, .int 0, .null, .int 0]))]) rfl ?_
  refine n_initN N 12 (ws := fun b => lawW AC x0 b) nwX7_11 imX3_init (zX3_init l D AC x0) mlX3_init rfl (by decide) (by decide) rfl rfl (Nat.le_of_ble_eq_true rfl) (Nat.le_of_ble_eq_true rfl) (Nat.le_of_ble_eq_true rfl) dX7_init_9 rfl (fun b9 => ?_)
  refine n_X (Y := (h0, .inr (7, [.null, .int 0, .null, .int 0, .int 0])) :: lawW AC x0 b9) rfl ?_
  refine n_putF N hin 15 flX7_12 plX7 rfl rfl rfl rfl (Nat.le_of_ble_eq_true rfl) dX7_init_12 rfl ?_
  refine n_X (Y := (h0, .inr (7, [.ref x0, .int 0, .null, .int 0, .int 0])) :: lawW AC x0 b9) rfl ?_
  refine n_aload N 16 0 rfl rfl dX7_init_15 rfl ?_
  refine n_iconst N 17 (v := 0) (by decide) dX7_init_16 rfl ?_
  refine n_newa N 19 1 (atype := .byte) (ty := .byte) (n' := 0) (a0 := (0, .inl (fun _ => 0))) (wA_sub_1 _ (List.mem_of_getElem? (i := 74) (by decide +kernel))) rfl rfl (fun _ => rfl) (by decide) (by decide) (Nat.le_of_ble_eq_true rfl) (Nat.le_of_ble_eq_true rfl) (Nat.le_of_ble_eq_true rfl) dX7_init_17 rfl (fun x1 => ?_)
  refine n_X (Y := (h0, .inr (7, [.ref x0, .int 0, .null, .int 0, .int 0])) :: (lawW AC x0 b9 ++ [(x1, eB AC 0)])) rfl ?_
  refine n_put N 22 flX7_18 plX7 rfl rfl rfl (Nat.le_of_ble_eq_true rfl) dX7_init_19 rfl ?_
  refine n_X (Y := (h0, .inr (7, [.ref x0, .int 0, .ref x1, .int 0, .int 0])) :: (lawW AC x0 b9 ++ [(x1, eB AC 0)])) rfl ?_
  exact n_ret N hret hlk (fun k => ([x0, b9 0, b9 1, x1] : List Nat).getD k 0) (List.Perm.refl _) (Nat.le_of_ble_eq_true rfl) (Nat.le_of_ble_eq_true rfl) dX7_init_22
set_option maxHeartbeats 4000000 in
set_option maxRecDepth 20000 in
theorem field_loop {p : Program} {e : Env} {R : Room} {s : State} {m : MethodId} {args : Array Value} {below : List Frame} {meth : Method} {c : Code} (l : Launch) (D : va_G) (AC : Nat → ClassId) (h0 qa : Nat) (N : Nx p R s m args c D AC RX1 cX1_init 2 (va_A [(h0, .inr (1, [.null, .int 0, .int 0, .int 0, .int 0]))] s.heap.size) 1 13 96) (hret : meth.sig.returnType = none) (hlk : meth.locks = false) : ∀ (k i : Nat) (h : Nat → Nat), i + k = 12 → NK p l e R s m args below meth c D 2 (va_A [(h0, .inr (1, [.null, .int 0, .int 0, .int 0, .int 0]))] s.heap.size) (MQ below (nQ D h0 s.heap.size (.inr (1, [.null, .int 0, .int 0, .int 0, .int 0])) (fun b => fieldW AC h0 b)) args s 13 96 (va_A [(h0, .inr (1, [.null, .int 0, .int 0, .int 0, .int 0]))] s.heap.size)) ((h0, .inr (1, [.ref qa, .int 0, .int 0, .int 5, .int 1])) :: (qa, .inl (AC 3, 12, .inr (.inr (.inr (.inr (rq i h)))))) :: (List.range i).map (fun j => (h j, eF))) (1 + i) (12 + 7 * i) 25 [(1, .int (nI i)), (0, .ref h0)] [] := by
  intro k
  induction k with
  | zero =>
    intro i h hi
    have hi : i = 12 := by omega
    subst hi
    refine n_iload N 26 0 rfl rfl dX1_init_25 rfl ?_
    refine n_bipush N 28 (v := 12) (by decide) dX1_init_26 rfl ?_
    refine n_ge N 50 31 dX1_init_28 (by decide) rfl (fun _ => ?_) (fun z => absurd (show (12 : Int32) ≤ nI 12 by decide) z)
    refine n_ret N hret hlk (va_up h 12 qa) ?_ (by omega) (by omega) dX1_init_50
    have e12 : va_up h 12 qa 12 = qa := va_up_self _ _ _
    have el : ∀ i, i < 12 → h i = va_up h 12 qa i := fun i hi => (va_up_ne _ _ (by omega)).symm
    unfold fieldW
    rw [e12, ← eQ_cg (n := 12) (h := h) el, List.map_congr_left (f := fun i => (va_up h 12 qa i, eF)) (g := fun j => (h j, eF)) (fun i hi => by rw [el i (List.mem_range.mp hi)])]
  | succ k ih =>
    intro i h hi
    refine n_iload N 26 0 rfl rfl dX1_init_25 rfl ?_
    refine n_bipush N 28 (v := 12) (by decide) dX1_init_26 rfl ?_
    refine n_ge N 50 31 dX1_init_28 (by decide) rfl (fun z => absurd z (nI_ge (a := i) (b := 12) (by omega) (by decide))) (fun _ => ?_)
    refine n_aload N 32 1 rfl rfl dX1_init_31 rfl ?_
    refine n_get N 35 flX1_11 rfl dX1_init_32 rfl ?_
    refine n_iload N 36 0 rfl rfl dX1_init_35 rfl ?_
    refine n_new N 39 (ci := 2) (fs := [.int 0, .int 0, .int 0, .int 0, .int 0, .int 0, .int 0]) (wA_sub_1 _ (List.mem_of_getElem? (i := 10) (by decide +kernel))) (wA_sub_1 _ (List.mem_of_getElem? (i := 11) (by decide +kernel))) (wA_sub_0 _ (List.mem_of_getElem? (i := 79) (by decide +kernel))) inX2 plX2 rfl (fun j hj => by rcases (show j = 0 ∨ j = 1 ∨ j = 2 ∨ j = 3 ∨ j = 4 ∨ j = 5 ∨ j = 6 by omega) with rfl | rfl | rfl | rfl | rfl | rfl | rfl <;> rfl) (by omega) (by omega) dX1_init_36 rfl (fun x0 => ?_)
    refine n_dup N 40 rfl dX1_init_39 rfl ?_
    refine n_initN N 43 (ws := fun b => [(x0, eF)]) nwX1_24 imX2_init (zX2_init l D AC x0) mlX2_init rfl (by decide) (by decide) rfl rfl (Nat.le_of_ble_eq_true rfl) (by omega) (by omega) dX1_init_40 rfl (fun b => ?_)
    refine n_perm (Y := (h0, .inr (1, [.ref qa, .int 0, .int 0, .int 5, .int 1])) :: (qa, .inl (AC 3, 12, .inr (.inr (.inr (.inr (rq i h)))))) :: (x0, eF) :: (List.range i).map (fun j => (h j, eF))) (List.Perm.cons _ (List.Perm.cons _ p_last)) ?_
    refine n_aast N 44 3 i (r := (RX2, TX2, 7)) rfl rfl rfl (by omega) (by decide) dX1_init_43 rfl ?_
    refine n_iinc N 47 (nI (i + 1)) 0 [(1, .int (nI (i + 1))), (0, .ref h0)] rfl (show nI i + Int32.ofInt 1 = nI (i + 1) from nI_1 i) (by decide) rfl dX1_init_44 rfl ?_
    refine n_goto N 25 dX1_init_47 (by decide) ?_
    refine n_perm (Y := (h0, .inr (1, [.ref qa, .int 0, .int 0, .int 5, .int 1])) :: (qa, .inl (AC 3, 12, .inr (.inr (.inr (.inr (rq (i + 1) (va_up h i x0))))))) :: (List.range (i + 1)).map (fun j => (va_up h i x0 j, eF))) ?_ (n_cs (by omega) (by omega) (ih (i + 1) (va_up h i x0) (by omega)))
    rw [rq_up, List.range_succ, List.map_append]
    refine List.Perm.cons _ (List.Perm.cons _ ?_)
    rw [List.map_congr_left (f := fun j => (va_up h i x0 j, eF)) (g := fun j => (h j, eF)) (fun j hj => by rw [va_up_ne _ _ (by have := List.mem_range.mp hj; omega)])]
    show List.Perm ((x0, eF) :: (List.range i).map (fun j => (h j, eF))) ((List.range i).map (fun j => (h j, eF)) ++ [(va_up h i x0 i, eF)])
    rw [va_up_self]
    exact p_last.symm
set_option maxHeartbeats 4000000 in
set_option maxRecDepth 20000 in
theorem zX1_init (l : Launch) (D : va_G) (AC : Nat → ClassId) (h0 : Nat) : CtrN l D AC yX1_init cX1_init 2 1 13 96 [] h0 (.inr (1, [.null, .int 0, .int 0, .int 0, .int 0])) (fun b => fieldW AC h0 b) := by
  refine ctrN_of (by decide +kernel) rfl (Nat.le_of_ble_eq_true rfl) ?_
  intro p e R s m args below meth c N hin hret hlk
  refine n_lo (lo' := [(0, .ref h0)]) rfl ?_
  refine n_aload N 1 0 rfl rfl dX1_init_0 rfl ?_
  refine n_obj N 4 mwX1_3 (by decide) dX1_init_1 rfl ?_
  refine n_aload N 5 0 rfl rfl dX1_init_4 rfl ?_
  refine n_bipush N 7 (v := 12) (by decide) dX1_init_5 rfl ?_
  refine n_newq N 10 3 (n' := 12) (wA_sub_1 _ (List.mem_of_getElem? (i := 10) (by decide +kernel))) N.2.2.2.2.2.1.2.2.1 rfl (by decide) (by decide) (Nat.le_of_ble_eq_true rfl) (Nat.le_of_ble_eq_true rfl) (Nat.le_of_ble_eq_true rfl) dX1_init_7 rfl (fun qa => ?_)
  refine n_X (Y := (h0, .inr (1, [.null, .int 0, .int 0, .int 0, .int 0])) :: [(qa, .inl (AC 3, 12, .inr (.inr (.inr (.inr (fun _ => none))))))]) rfl ?_
  refine n_putF N hin 13 flX1_11 plX1 rfl rfl rfl rfl (Nat.le_of_ble_eq_true rfl) dX1_init_10 rfl ?_
  refine n_X (Y := (h0, .inr (1, [.ref qa, .int 0, .int 0, .int 0, .int 0])) :: [(qa, .inl (AC 3, 12, .inr (.inr (.inr (.inr (fun _ => none))))))]) rfl ?_
  refine n_aload N 14 0 rfl rfl dX1_init_13 rfl ?_
  refine n_iconst N 15 (v := 5) (by decide) dX1_init_14 rfl ?_
  refine n_put N 18 flX1_17 plX1 rfl rfl rfl (Nat.le_of_ble_eq_true rfl) dX1_init_15 rfl ?_
  refine n_X (Y := (h0, .inr (1, [.ref qa, .int 0, .int 0, .int 5, .int 0])) :: [(qa, .inl (AC 3, 12, .inr (.inr (.inr (.inr (fun _ => none))))))]) rfl ?_
  refine n_aload N 19 0 rfl rfl dX1_init_18 rfl ?_
  refine n_iconst N 20 (v := 1) (by decide) dX1_init_19 rfl ?_
  refine n_put N 23 flX1_21 plX1 rfl rfl rfl (Nat.le_of_ble_eq_true rfl) dX1_init_20 rfl ?_
  refine n_X (Y := (h0, .inr (1, [.ref qa, .int 0, .int 0, .int 5, .int 1])) :: [(qa, .inl (AC 3, 12, .inr (.inr (.inr (.inr (fun _ => none))))))]) rfl ?_
  refine n_iconst N 24 (v := 0) (by decide) dX1_init_23 rfl ?_
  refine n_istore N 25 [(1, .int 0), (0, .ref h0)] rfl (by decide) rfl dX1_init_24 rfl ?_
  refine n_X (Y := (h0, .inr (1, [.ref qa, .int 0, .int 0, .int 5, .int 1])) :: (qa, .inl (AC 3, 12, .inr (.inr (.inr (.inr (rq 0 (fun _ => 0))))))) :: (List.range 0).map (fun j => ((fun _ => 0 : Nat → Nat) j, eF))) (by rw [← rq_0]; rfl) ?_
  refine n_lo (lo' := [(1, .int (nI 0)), (0, .ref h0)]) (by rw [nI_0]) ?_
  exact n_cs rfl rfl (field_loop l D AC h0 qa N hret hlk 12 0 (fun _ => 0) rfl)
set_option maxHeartbeats 4000000 in
set_option maxRecDepth 20000 in
theorem zX8_init (l : Launch) (D : va_G) (AC : Nat → ClassId) (h0 : Nat) : CtrN l D AC yX8_init cX8_init 2 2 23 435 [] h0 (.inr (8, [.null, .null, .null, .int 0, .null, .int 0])) (fun b => worldW AC h0 b) := by
  refine ctrN_of (by decide +kernel) rfl (Nat.le_of_ble_eq_true rfl) ?_
  intro p e R s m args below meth c N hin hret hlk
  refine n_lo (lo' := [(0, .ref h0)]) rfl ?_
  refine n_aload N 1 0 rfl rfl dX8_init_0 rfl ?_
  refine n_obj N 4 mwX8_3 (by decide) dX8_init_1 rfl ?_
  refine n_aload N 5 0 rfl rfl dX8_init_4 rfl ?_
  refine n_new N 8 (ci := 1) (fs := [.null, .int 0, .int 0, .int 0, .int 0]) (wA_sub_1 _ (List.mem_of_getElem? (i := 4) (by decide +kernel))) (wA_sub_1 _ (List.mem_of_getElem? (i := 5) (by decide +kernel))) (wA_sub_0 _ (List.mem_of_getElem? (i := 78) (by decide +kernel))) inX1 plX1 rfl (fun j hj => by rcases (show j = 0 ∨ j = 1 ∨ j = 2 ∨ j = 3 ∨ j = 4 by omega) with rfl | rfl | rfl | rfl | rfl <;> rfl) (Nat.le_of_ble_eq_true rfl) (Nat.le_of_ble_eq_true rfl) dX8_init_5 rfl (fun xf => ?_)
  refine n_dup N 9 rfl dX8_init_8 rfl ?_
  refine n_X (Y := ((h0, .inr (8, [.null, .null, .null, .int 0, .null, .int 0])) :: []) ++ [(xf, .inr (1, [.null, .int 0, .int 0, .int 0, .int 0]))]) rfl ?_
  refine n_init N 12 (ws := fun b => fieldW AC xf b) mwX8_11 imX1_init (zX1_init l D AC xf) mlX1_init rfl (by decide) (by decide) rfl rfl (Nat.le_of_ble_eq_true rfl) (Nat.le_of_ble_eq_true rfl) (Nat.le_of_ble_eq_true rfl) dX8_init_9 rfl (fun b9 => ?_)
  refine n_X (Y := (h0, .inr (8, [.null, .null, .null, .int 0, .null, .int 0])) :: fieldW AC xf b9) rfl ?_
  refine n_putF N hin 15 flX8_12 plX8 rfl rfl rfl rfl (Nat.le_of_ble_eq_true rfl) dX8_init_12 rfl ?_
  refine n_X (Y := (h0, .inr (8, [.ref xf, .null, .null, .int 0, .null, .int 0])) :: fieldW AC xf b9) rfl ?_
  refine n_aload N 16 0 rfl rfl dX8_init_15 rfl ?_
  refine n_iconst N 17 (v := 2) (by decide) dX8_init_16 rfl ?_
  refine n_newq N 20 4 (n' := 2) (wA_sub_1 _ (List.mem_of_getElem? (i := 61) (by decide +kernel))) N.2.2.2.2.2.1.2.2.2.1 rfl (by decide) (by decide) (Nat.le_of_ble_eq_true rfl) (Nat.le_of_ble_eq_true rfl) (Nat.le_of_ble_eq_true rfl) dX8_init_17 rfl (fun xl => ?_)
  refine n_perm (Y := (h0, .inr (8, [.ref xf, .null, .null, .int 0, .null, .int 0])) :: (xl, .inl (AC 4, 2, .inr (.inr (.inr (.inr (fun _ => none)))))) :: fieldW AC xf b9) (List.Perm.cons _ p_last) ?_
  refine n_putF N hin 23 flX8_20 plX8 rfl rfl rfl rfl (Nat.le_of_ble_eq_true rfl) dX8_init_20 rfl ?_
  refine n_X (Y := (h0, .inr (8, [.ref xf, .ref xl, .null, .int 0, .null, .int 0])) :: (xl, .inl (AC 4, 2, .inr (.inr (.inr (.inr (fun _ => none)))))) :: fieldW AC xf b9) rfl ?_
  refine n_aload N 24 0 rfl rfl dX8_init_23 rfl ?_
  refine n_bipush N 26 (v := 60) (by decide) dX8_init_24 rfl ?_
  refine n_newa N 28 1 (atype := .byte) (ty := .byte) (n' := 60) (a0 := (60, .inl (fun _ => 0))) (wA_sub_1 _ (List.mem_of_getElem? (i := 74) (by decide +kernel))) rfl rfl (fun _ => rfl) (by decide) (by decide) (Nat.le_of_ble_eq_true rfl) (Nat.le_of_ble_eq_true rfl) (Nat.le_of_ble_eq_true rfl) dX8_init_26 rfl (fun xt => ?_)
  refine n_X (Y := (h0, .inr (8, [.ref xf, .ref xl, .null, .int 0, .null, .int 0])) :: (xl, .inl (AC 4, 2, .inr (.inr (.inr (.inr (fun _ => none)))))) :: (fieldW AC xf b9 ++ [(xt, eB AC 60)])) rfl ?_
  refine n_putF N hin 31 flX8_24 plX8 rfl rfl rfl rfl (Nat.le_of_ble_eq_true rfl) dX8_init_28 rfl ?_
  refine n_X (Y := (h0, .inr (8, [.ref xf, .ref xl, .ref xt, .int 0, .null, .int 0])) :: (xl, .inl (AC 4, 2, .inr (.inr (.inr (.inr (fun _ => none)))))) :: (fieldW AC xf b9 ++ [(xt, eB AC 60)])) rfl ?_
  refine n_aload N 32 0 rfl rfl dX8_init_31 rfl ?_
  refine n_bipush N 34 (v := 24) (by decide) dX8_init_32 rfl ?_
  refine n_newa N 36 0 (atype := .int) (ty := .int) (n' := 24) (a0 := (24, .inl (fun _ => 0))) (wA_sub_1 _ (List.mem_of_getElem? (i := 75) (by decide +kernel))) rfl rfl (fun _ => rfl) (by decide) (by decide) (Nat.le_of_ble_eq_true rfl) (Nat.le_of_ble_eq_true rfl) (Nat.le_of_ble_eq_true rfl) dX8_init_34 rfl (fun xw => ?_)
  refine n_X (Y := (h0, .inr (8, [.ref xf, .ref xl, .ref xt, .int 0, .null, .int 0])) :: (xl, .inl (AC 4, 2, .inr (.inr (.inr (.inr (fun _ => none)))))) :: ((fieldW AC xf b9 ++ [(xt, eB AC 60)]) ++ [(xw, eI AC 24)])) rfl ?_
  refine n_putF N hin 39 flX8_28 plX8 rfl rfl rfl rfl (Nat.le_of_ble_eq_true rfl) dX8_init_36 rfl ?_
  refine n_X (Y := (h0, .inr (8, [.ref xf, .ref xl, .ref xt, .int 0, .ref xw, .int 0])) :: (xl, .inl (AC 4, 2, .inr (.inr (.inr (.inr (fun _ => none)))))) :: ((fieldW AC xf b9 ++ [(xt, eB AC 60)]) ++ [(xw, eI AC 24)])) rfl ?_
  refine n_iconst N 40 (v := 0) (by decide) dX8_init_39 rfl ?_
  refine n_istore N 41 [(1, .int 0), (0, .ref h0)] rfl (by decide) rfl dX8_init_40 rfl ?_
  refine n_iload N 42 0 rfl rfl dX8_init_41 rfl ?_
  refine n_iconst N 43 (v := 2) (by decide) dX8_init_42 rfl ?_
  refine n_ge N 65 46 dX8_init_43 (by decide) rfl (fun z => absurd z (show ¬ (2 : Int32) ≤ 0 by decide)) (fun _ => ?_)
  refine n_aload N 47 1 rfl rfl dX8_init_46 rfl ?_
  refine n_get N 50 flX8_20 rfl dX8_init_47 rfl ?_
  refine n_iload N 51 0 rfl rfl dX8_init_50 rfl ?_
  refine n_new N 54 (ci := 3) (fs := [.null, .int 0, .null, .int 0]) (wA_sub_1 _ (List.mem_of_getElem? (i := 61) (by decide +kernel))) (wA_sub_1 _ (List.mem_of_getElem? (i := 62) (by decide +kernel))) (wA_sub_0 _ (List.mem_of_getElem? (i := 80) (by decide +kernel))) inX3 plX3 rfl (fun j hj => by rcases (show j = 0 ∨ j = 1 ∨ j = 2 ∨ j = 3 by omega) with rfl | rfl | rfl | rfl <;> rfl) (Nat.le_of_ble_eq_true rfl) (Nat.le_of_ble_eq_true rfl) dX8_init_51 rfl (fun v0 => ?_)
  refine n_dup N 55 rfl dX8_init_54 rfl ?_
  refine n_X (Y := ((h0, .inr (8, [.ref xf, .ref xl, .ref xt, .int 0, .ref xw, .int 0])) :: (xl, .inl (AC 4, 2, .inr (.inr (.inr (.inr (fun _ => none)))))) :: ((fieldW AC xf b9 ++ [(xt, eB AC 60)]) ++ [(xw, eI AC 24)])) ++ [(v0, .inr (3, [.null, .int 0, .null, .int 0]))]) rfl ?_
  refine n_initN N 58 (ws := fun b => lawW AC v0 b) nwX8_32 imX3_init (zX3_init l D AC v0) mlX3_init rfl (by decide) (by decide) rfl rfl (Nat.le_of_ble_eq_true rfl) (Nat.le_of_ble_eq_true rfl) (Nat.le_of_ble_eq_true rfl) dX8_init_55 rfl (fun g0 => ?_)
  refine n_perm (Y := (h0, .inr (8, [.ref xf, .ref xl, .ref xt, .int 0, .ref xw, .int 0])) :: (xl, .inl (AC 4, 2, .inr (.inr (.inr (.inr (fun _ => none)))))) :: (v0, eL (g0 0) (g0 1)) :: (((fieldW AC xf b9 ++ [(xt, eB AC 60)]) ++ [(xw, eI AC 24)]) ++ [(g0 0, eI AC 60), (g0 1, eI AC 60)])) (List.Perm.cons _ (List.Perm.cons _ List.perm_middle)) ?_
  refine n_aast N 59 4 0 (r := (RX3, TX3, 4)) rfl rfl rfl (by decide) (by decide) dX8_init_58 rfl ?_
  refine n_X (Y := (h0, .inr (8, [.ref xf, .ref xl, .ref xt, .int 0, .ref xw, .int 0])) :: (xl, .inl (AC 4, 2, .inr (.inr (.inr (.inr (va_up (fun _ => none) 0 (some v0))))))) :: ((v0, eL (g0 0) (g0 1)) :: (((fieldW AC xf b9 ++ [(xt, eB AC 60)]) ++ [(xw, eI AC 24)]) ++ [(g0 0, eI AC 60), (g0 1, eI AC 60)]))) rfl ?_
  refine n_iinc N 62 1 0 [(1, .int 1), (0, .ref h0)] rfl (by decide) (by decide) rfl dX8_init_59 rfl ?_
  refine n_goto N 41 dX8_init_62 (by decide) ?_
  refine n_iload N 42 0 rfl rfl dX8_init_41 rfl ?_
  refine n_iconst N 43 (v := 2) (by decide) dX8_init_42 rfl ?_
  refine n_ge N 65 46 dX8_init_43 (by decide) rfl (fun z => absurd z (show ¬ (2 : Int32) ≤ 1 by decide)) (fun _ => ?_)
  refine n_aload N 47 1 rfl rfl dX8_init_46 rfl ?_
  refine n_get N 50 flX8_20 rfl dX8_init_47 rfl ?_
  refine n_iload N 51 0 rfl rfl dX8_init_50 rfl ?_
  refine n_new N 54 (ci := 3) (fs := [.null, .int 0, .null, .int 0]) (wA_sub_1 _ (List.mem_of_getElem? (i := 61) (by decide +kernel))) (wA_sub_1 _ (List.mem_of_getElem? (i := 62) (by decide +kernel))) (wA_sub_0 _ (List.mem_of_getElem? (i := 80) (by decide +kernel))) inX3 plX3 rfl (fun j hj => by rcases (show j = 0 ∨ j = 1 ∨ j = 2 ∨ j = 3 by omega) with rfl | rfl | rfl | rfl <;> rfl) (Nat.le_of_ble_eq_true rfl) (Nat.le_of_ble_eq_true rfl) dX8_init_51 rfl (fun v1 => ?_)
  refine n_dup N 55 rfl dX8_init_54 rfl ?_
  refine n_X (Y := ((h0, .inr (8, [.ref xf, .ref xl, .ref xt, .int 0, .ref xw, .int 0])) :: (xl, .inl (AC 4, 2, .inr (.inr (.inr (.inr (va_up (fun _ => none) 0 (some v0))))))) :: ((v0, eL (g0 0) (g0 1)) :: (((fieldW AC xf b9 ++ [(xt, eB AC 60)]) ++ [(xw, eI AC 24)]) ++ [(g0 0, eI AC 60), (g0 1, eI AC 60)]))) ++ [(v1, .inr (3, [.null, .int 0, .null, .int 0]))]) rfl ?_
  refine n_initN N 58 (ws := fun b => lawW AC v1 b) nwX8_32 imX3_init (zX3_init l D AC v1) mlX3_init rfl (by decide) (by decide) rfl rfl (Nat.le_of_ble_eq_true rfl) (Nat.le_of_ble_eq_true rfl) (Nat.le_of_ble_eq_true rfl) dX8_init_55 rfl (fun g1 => ?_)
  refine n_perm (Y := (h0, .inr (8, [.ref xf, .ref xl, .ref xt, .int 0, .ref xw, .int 0])) :: (xl, .inl (AC 4, 2, .inr (.inr (.inr (.inr (va_up (fun _ => none) 0 (some v0))))))) :: (v1, eL (g1 0) (g1 1)) :: (((v0, eL (g0 0) (g0 1)) :: (((fieldW AC xf b9 ++ [(xt, eB AC 60)]) ++ [(xw, eI AC 24)]) ++ [(g0 0, eI AC 60), (g0 1, eI AC 60)])) ++ [(g1 0, eI AC 60), (g1 1, eI AC 60)])) (List.Perm.cons _ (List.Perm.cons _ List.perm_middle)) ?_
  refine n_aast N 59 4 1 (r := (RX3, TX3, 4)) rfl rfl rfl (by decide) (by decide) dX8_init_58 rfl ?_
  refine n_X (Y := (h0, .inr (8, [.ref xf, .ref xl, .ref xt, .int 0, .ref xw, .int 0])) :: (xl, .inl (AC 4, 2, .inr (.inr (.inr (.inr (va_up (va_up (fun _ => none) 0 (some v0)) 1 (some v1))))))) :: ((v1, eL (g1 0) (g1 1)) :: (((v0, eL (g0 0) (g0 1)) :: (((fieldW AC xf b9 ++ [(xt, eB AC 60)]) ++ [(xw, eI AC 24)]) ++ [(g0 0, eI AC 60), (g0 1, eI AC 60)])) ++ [(g1 0, eI AC 60), (g1 1, eI AC 60)]))) rfl ?_
  refine n_iinc N 62 2 0 [(1, .int 2), (0, .ref h0)] rfl (by decide) (by decide) rfl dX8_init_59 rfl ?_
  refine n_goto N 41 dX8_init_62 (by decide) ?_
  refine n_iload N 42 0 rfl rfl dX8_init_41 rfl ?_
  refine n_iconst N 43 (v := 2) (by decide) dX8_init_42 rfl ?_
  refine n_ge N 65 46 dX8_init_43 (by decide) rfl (fun _ => ?_) (fun z => absurd (show (2 : Int32) ≤ 2 by decide) z)
  have hb : ∀ i, i < 13 → b9 i = fcat 13 b9 (fun k => ([xf, xl, xt, xw, v0, v1, g0 0, g0 1, g1 0, g1 1] : List Nat).getD k 0) i := fun i hi => fcat_lt hi
  refine n_X (Y := worldW AC h0 (fcat 13 b9 (fun k => ([xf, xl, xt, xw, v0, v1, g0 0, g0 1, g1 0, g1 1] : List Nat).getD k 0))) ?_ ?_
  · rw [fieldW_cg hb, show (va_up (va_up (fun _ => none) 0 (some v0)) 1 (some v1)) = rq 2 (fun j => fcat 13 b9 (fun k => ([xf, xl, xt, xw, v0, v1, g0 0, g0 1, g1 0, g1 1] : List Nat).getD k 0) (17 + j)) from by
      funext j; rcases j with _ | _ | j
      · rfl
      · rfl
      · simp [va_up, rq]]
    rfl
  · exact n_ret N hret hlk _ (List.Perm.refl _) (Nat.le_of_ble_eq_true rfl) (Nat.le_of_ble_eq_true rfl) dX8_init_65
