-- constructors: a world that grows
theorem vaP_mem {D : va_G} {X : va_W} {H : Heap} (h : va_P D vwCl X H) {q : Nat × va_E} (hq : q ∈ X) : va_at D vwCl q H := by
  obtain ⟨i, hi⟩ := List.getElem?_of_mem hq
  exact h i q hi
theorem vaP_perm {D : va_G} {X Y : va_W} {H : Heap} (p : List.Perm X Y) (h : va_P D vwCl X H) : va_P D vwCl Y H := fun k q hk => vaP_mem h (p.mem_iff.mpr (List.mem_of_getElem? hk))
theorem vaD_pw {A : Nat → Prop} {X : va_W} : va_D A X ↔ List.Pairwise (fun p q : Nat × va_E => p.1 ≠ q.1) X ∧ ∀ q ∈ X, A q.1 := by
  constructor
  · intro h
    refine ⟨List.pairwise_iff_getElem.mpr (fun i j hi hj hij e => ?_), fun q hq => ?_⟩
    · have := h.1 i j X[i] X[j] (List.getElem?_eq_getElem hi) (List.getElem?_eq_getElem hj) e
      omega
    · obtain ⟨i, hi⟩ := List.getElem?_of_mem hq
      exact h.2 i q hi
  · rintro ⟨h1, h2⟩
    have h1 := List.pairwise_iff_getElem.mp h1
    refine ⟨fun i j p q hp hq e => ?_, fun k q hk => h2 q (List.mem_of_getElem? hk)⟩
    obtain ⟨hi, rfl⟩ := List.getElem?_eq_some_iff.mp hp
    obtain ⟨hj, rfl⟩ := List.getElem?_eq_some_iff.mp hq
    rcases Nat.lt_trichotomy i j with c | c | c
    · exact absurd e (h1 i j hi hj c)
    · exact c
    · exact absurd e.symm (h1 j i hj hi c)
theorem vaD_perm {A : Nat → Prop} {X Y : va_W} (p : List.Perm X Y) (h : va_D A X) : va_D A Y := by
  obtain ⟨h1, h2⟩ := vaD_pw.mp h
  exact vaD_pw.mpr ⟨(p.pairwise_iff (fun h e => h e.symm)).mp h1, fun q hq => h2 q (p.mem_iff.mpr hq)⟩
theorem vaRA_nm {U : State} {cA : ClassId} {ty : FieldType} (h : va_RA U cA ty) : U.vm.findClass ("[" ++ ty.toString) = some cA := by
  cases ty with
  | object C => obtain ⟨_, _, _, _, _, h4⟩ := h; exact h4
  | _ => exact h
theorem vaK_same {D : va_G} {tys : List (ClassId × FieldType)} {U : State} {cA cB : ClassId} {ty : FieldType} {k : Nat} (hK : va_K D vwCl (tys ++ [(cA, ty)]) U) (ht : tys[k]? = some (cB, ty)) : cA = cB := by
  have hk := (List.getElem?_eq_some_iff.mp ht).1
  have h1 := (hK.2 tys.length (cA, ty) (by simp)).2
  have h2 := (hK.2 k (cB, ty) (by rw [List.getElem?_append_left hk]; exact ht)).2
  exact Option.some.inj ((vaRA_nm h1).symm.trans (vaRA_nm h2))
theorem n_one {q a : Nat} {e e0 : va_E} {k : Nat} (h : ([(a, e0)] : va_W)[k]? = some (q, e)) : k = 0 ∧ q = a := by
  have hk : k < 1 := (List.getElem?_eq_some_iff.mp h).1
  have h0 : k = 0 := by omega
  subst h0
  cases h
  exact ⟨rfl, rfl⟩
theorem n_join {A0 : Nat → Prop} {D : va_G} {X w1 : va_W} {a : Nat} {e0 : va_E} {H H1 : Heap} (hP : va_P D vwCl (X ++ [(a, e0)]) H) (hD : va_D A0 (X ++ [(a, e0)])) (hk : ∀ q : Nat, q < H.size → ¬ va_A [(a, e0)] H.size q → H1[q]? = H[q]?) (hF : ∀ q, va_A [(a, e0)] H.size q → A0 q) (hP1 : va_P D vwCl w1 H1) (hD1 : va_D (va_A [(a, e0)] H.size) w1) : va_P D vwCl (X ++ w1) H1 ∧ va_D A0 (X ++ w1) := by
  have up : ∀ (i : Nat) (p : Nat × va_E), X[i]? = some p → (X ++ [(a, e0)])[i]? = some p := fun i p h => by
    rw [List.getElem?_append_left (List.getElem?_eq_some_iff.mp h).1]; exact h
  have apart : ∀ (i : Nat) (p : Nat × va_E), X[i]? = some p → p.1 < H.size ∧ ¬ va_A [(a, e0)] H.size p.1 := by
    intro i p h
    have hl := (hP i p (up i p h)).lt
    refine ⟨hl, ?_⟩
    rintro (⟨k, e, hz⟩ | hz)
    · obtain ⟨-, he⟩ := n_one hz
      have := hD.1 i X.length p (a, e0) (up i p h) (by simp) he
      have := (List.getElem?_eq_some_iff.mp h).1
      omega
    · omega
  refine ⟨va_P.app (fun k q hq => ?_) hP1, va_D.app ⟨fun i j p q hp hq e => hD.1 i j p q (up i p hp) (up j q hq) e, fun k q hq => hD.2 k q (up k q hq)⟩ (hD1.weaken (fun k q _ h => hF q.1 h)) (fun i j x y hx hy hxy => ?_)⟩
  · obtain ⟨g1, g2⟩ := apart k q hq
    exact (hP k q (up k q hq)).kept (hk q.1 g1 g2)
  · exact (apart i x hx).2 (by rw [hxy]; exact hD1.2 j y hy)
def tysC (AC : Nat → ClassId) : List (ClassId × FieldType) := [(AC 0, .int), (AC 1, .byte), (AC 2, .boolean), (AC 3, .object "FurrowTalk$Furrow"), (AC 4, .object "FurrowTalk$Law"), (AC 5, .object "FurrowTalk$Sheet")]
def Kd (D : va_G) (AC : Nat → ClassId) (U : State) : Prop := va_K D vwCl (tysC AC) U ∧ (∀ w ∈ NW, va_Nw w U) ∧ va_AO "FurrowTalk$Furrow" U ∧ va_AO "FurrowTalk$Law" U ∧ va_AO "FurrowTalk$Sheet" U
theorem Kd_warm {D : va_G} {AC : Nat → ClassId} {s U : State} (hW : s.WarmedH U.vm) (h : Kd D AC s) : Kd D AC U := ⟨va_K.moved hW.alike h.1, NW_warm hW h.2.1, va_AO.moved hW.alike h.2.2.1, va_AO.moved hW.alike h.2.2.2.1, va_AO.moved hW.alike h.2.2.2.2⟩
theorem Kd_call {D : va_G} {AC : Nat → ClassId} {U : State} {gf : JFrame} {mk : MethodId} {a : Array Value} (h : Kd D AC U) : Kd D AC (U.calling gf mk a) := ⟨va_K.moved (u := U) (U := U.calling gf mk a) (Vm.Alike.refl U.vm) h.1, NW_same (s := U) (U := U.calling gf mk a) rfl h.2.1, va_AO.moved (u := U) (U := U.calling gf mk a) (Vm.Alike.refl U.vm) h.2.2.1, va_AO.moved (u := U) (U := U.calling gf mk a) (Vm.Alike.refl U.vm) h.2.2.2.1, va_AO.moved (u := U) (U := U.calling gf mk a) (Vm.Alike.refl U.vm) h.2.2.2.2⟩
def rmN (d mc ms : Nat) : Room := { frames := d + 1, cells := mc, slots := ms, locals := 48 * d + 48 }
def nPre (D : va_G) (AC : Nat → ClassId) (h0 sz : Nat) (e0 : va_E) (U : State) : Prop := U.heap.size = sz ∧ va_P D vwCl [(h0, e0)] U.heap ∧ Kd D AC U
def nQ (D : va_G) (h0 sz : Nat) (e0 : va_E) (ws : (Nat → Nat) → va_W) : Array Value → State → Outcome → State → Prop := va_Qv (fun _ : Nat → Nat => True) (fun a t => va_P D vwCl (ws a) t.heap ∧ va_D (va_A [(h0, e0)] sz) (ws a)) (va_A [(h0, e0)] sz)
/-- a constructor: its object is h0, with e0; behind it there are the cells of ws, at some addresses -/
def CtrN (l : Launch) (D : va_G) (AC : Nat → ClassId) (y : MethodName) (cc : ByteArray) (nL d mc ms : Nat) (As : List Value) (h0 : Nat) (e0 : va_E) (ws : (Nat → Nat) → va_W) : Prop := ∀ sz : Nat, Met l y (.code y cc nL none :: wA) (rmN d mc ms) (va_Pc (.ref h0 :: As) (nPre D AC h0 sz e0)) (nQ D h0 sz e0 ws) mc ms (va_A [(h0, e0)] sz)
theorem nPre_blind {D : va_G} {AC : Nat → ClassId} {h0 sz : Nat} {e0 : va_E} {av : List Value} : FrameBlind (va_Pc av (nPre D AC h0 sz e0)) := by
  intro a U gf mk q
  obtain ⟨q0, q1, qP, qK⟩ := q
  exact ⟨q0, q1, qP, Kd_call qK⟩
theorem obj_im : Cond.instanceMethod objectInit ∈ wA := wA_sub_0 _ (List.mem_of_getElem? (i := 96) (by decide +kernel))
theorem obj_cd : Cond.code objectInit ⟨#[0xb1]⟩ 1 none ∈ wA := wA_sub_0 _ (List.mem_of_getElem? (i := 97) (by decide +kernel))
section NK
variable {p : Program} {l : Launch} {e : Env} {R : Room} {s : State} {m : MethodId} {args : Array Value} {below : List Frame} {meth : Method} {c : Code} {D : va_G} {AC : Nat → ClassId} {own : String} {cc : ByteArray} {nL : Nat} {A : Nat → Prop} {Q : State → Prop} {X : va_W} {cells slots pc : Nat} {lo : List (Nat × Value)} {st : List Value} {d mc ms : Nat}
def Nx (p : Program) (R : Room) (s : State) (m : MethodId) (args : Array Value) (c : Code) (D : va_G) (AC : Nat → ClassId) (own : String) (cc : ByteArray) (nL : Nat) (A : Nat → Prop) (d mc ms : Nat) : Prop :=
  p.tables.exec = Jvm.exec ∧ c.code = cc ∧ c.maxLocals = nL ∧ s.vm.findClass own = some m.cls ∧ (∀ w ∈ wA, w.before args s = true) ∧ Kd D AC s ∧ (∀ q, s.heap.size ≤ q → A q) ∧ d + 1 ≤ R.frames ∧ 48 * d + 48 ≤ R.locals ∧ mc ≤ R.cells ∧ ms ≤ R.slots
def NK (p : Program) (l : Launch) (e : Env) (R : Room) (s : State) (m : MethodId) (args : Array Value) (below : List Frame) (meth : Method) (c : Code) (D : va_G) (nL : Nat) (A : Nat → Prop) (Q : State → Prop) (X : va_W) (cells slots pc : Nat) (lo : List (Nat × Value)) (st : List Value) : Prop :=
  ∀ (H : Heap) (locs : List Loc) (ls : Array Slot), va_P D vwCl X H → va_D A X → va_S A s.heap H locs → lv_has ls nL lo → W p l e R s m args below meth c H locs cells slots Q (F0 m pc ls st)
theorem n_perm {Y : va_W} (h : List.Perm X Y) (k : NK p l e R s m args below meth c D nL A Q Y cells slots pc lo st) : NK p l e R s m args below meth c D nL A Q X cells slots pc lo st := fun H locs ls hP hD hS hl => k H locs ls (vaP_perm h hP) (vaD_perm h hD) hS hl
theorem n_lo {lo' : List (Nat × Value)} (h : lo = lo') (k : NK p l e R s m args below meth c D nL A Q X cells slots pc lo' st) : NK p l e R s m args below meth c D nL A Q X cells slots pc lo st := h ▸ k
theorem n_st {st' : List Value} (h : st = st') (k : NK p l e R s m args below meth c D nL A Q X cells slots pc lo st') : NK p l e R s m args below meth c D nL A Q X cells slots pc lo st := h ▸ k
/-- an entry said otherwise -/
theorem n_conv {a : Nat} {e1 e2 : va_E} {X' : va_W} (h : ∀ H : Heap, va_at D vwCl (a, e1) H → va_at D vwCl (a, e2) H) (k : NK p l e R s m args below meth c D nL A Q ((a, e2) :: X') cells slots pc lo st) : NK p l e R s m args below meth c D nL A Q ((a, e1) :: X') cells slots pc lo st := by
  intro H locs ls hP hD hS hl
  refine k H locs ls (fun i q hq => ?_) ?_ hS hl
  · cases i with
    | zero => cases hq; exact h H (hP 0 _ rfl)
    | succ i => exact hP (i + 1) q hq
  · refine ⟨fun i j x y hx hy hxy => ?_, fun i q hq => ?_⟩
    · have key : ∀ (i : Nat) (x : Nat × va_E), ((a, e2) :: X')[i]? = some x → ∃ x' : Nat × va_E, ((a, e1) :: X')[i]? = some x' ∧ x'.1 = x.1 := by
        intro i x hx
        cases i with
        | zero => cases hx; exact ⟨(a, e1), rfl, rfl⟩
        | succ i => exact ⟨x, hx, rfl⟩
      obtain ⟨x', h1, h2⟩ := key i x hx
      obtain ⟨y', h3, h4⟩ := key j y hy
      exact hD.1 i j x' y' h1 h3 (by rw [h2, h4, hxy])
    · cases i with
      | zero => cases hq; exact hD.2 0 (a, e1) rfl
      | succ i => exact hD.2 (i + 1) q hq
theorem n_aload (N : Nx p R s m args c D AC own cc nL A d mc ms) (q : Nat) {kn : Fin 4} {i : Nat} {x : Nat} (j : Nat) (hi : (kn : Nat) = i) (hlo : lo[j]? = some (i, .ref x)) (hd : decode cc pc = .ok (.aload_n kn, 1)) (hq : pc + 1 = q) (k : NK p l e R s m args below meth c D nL A Q X cells slots q lo (.ref x :: st)) : NK p l e R s m args below meth c D nL A Q X cells slots pc lo st := by
  subst hq
  exact fun H locs ls hP hD hS hl => lv_aload_n N.1 N.2.1 hd hi (lv_at hl j hlo) (k H locs ls hP hD hS hl)
theorem n_iload (N : Nx p R s m args c D AC own cc nL A d mc ms) (q : Nat) {kn : Fin 4} {i : Nat} {x : Int32} (j : Nat) (hi : (kn : Nat) = i) (hlo : lo[j]? = some (i, .int x)) (hd : decode cc pc = .ok (.iload_n kn, 1)) (hq : pc + 1 = q) (k : NK p l e R s m args below meth c D nL A Q X cells slots q lo (.int x :: st)) : NK p l e R s m args below meth c D nL A Q X cells slots pc lo st := by
  subst hq
  exact fun H locs ls hP hD hS hl => lv_iload_n N.1 N.2.1 hd hi (lv_at hl j hlo) (k H locs ls hP hD hS hl)
theorem n_iconst (N : Nx p R s m args c D AC own cc nL A d mc ms) (q : Nat) {n : Int} {v : Int32} (hv : Int32.ofInt n = v) (hd : decode cc pc = .ok (.iconst n, 1)) (hq : pc + 1 = q) (k : NK p l e R s m args below meth c D nL A Q X cells slots q lo (.int v :: st)) : NK p l e R s m args below meth c D nL A Q X cells slots pc lo st := by
  subst hq
  exact fun H locs ls hP hD hS hl => lv_iconst N.1 N.2.1 hd hv (k H locs ls hP hD hS hl)
theorem n_bipush (N : Nx p R s m args c D AC own cc nL A d mc ms) (q : Nat) {n : Int} {v : Int32} (hv : (Int8.ofInt n).toInt32 = v) (hd : decode cc pc = .ok (.bipush n, 2)) (hq : pc + 2 = q) (k : NK p l e R s m args below meth c D nL A Q X cells slots q lo (.int v :: st)) : NK p l e R s m args below meth c D nL A Q X cells slots pc lo st := by
  subst hq
  exact fun H locs ls hP hD hS hl => lv_bipush N.1 N.2.1 hd hv (k H locs ls hP hD hS hl)
theorem n_sipush (N : Nx p R s m args c D AC own cc nL A d mc ms) (q : Nat) {n : Int} {v : Int32} (hv : (Int16.ofInt n).toInt32 = v) (hd : decode cc pc = .ok (.sipush n, 3)) (hq : pc + 3 = q) (k : NK p l e R s m args below meth c D nL A Q X cells slots q lo (.int v :: st)) : NK p l e R s m args below meth c D nL A Q X cells slots pc lo st := by
  subst hq
  exact fun H locs ls hP hD hS hl => lv_sipush N.1 N.2.1 hd hv (k H locs ls hP hD hS hl)
theorem n_dup (N : Nx p R s m args c D AC own cc nL A d mc ms) (q : Nat) {va : Value} (hc : va.category = 1) (hd : decode cc pc = .ok (.dup, 1)) (hq : pc + 1 = q) (k : NK p l e R s m args below meth c D nL A Q X cells slots q lo (va :: va :: st)) : NK p l e R s m args below meth c D nL A Q X cells slots pc lo (va :: st) := by
  subst hq
  exact fun H locs ls hP hD hS hl => lv_dup N.1 N.2.1 hd hc (k H locs ls hP hD hS hl)
theorem n_istore (N : Nx p R s m args c D AC own cc nL A d mc ms) (q : Nat) {kn : Fin 4} {i : Nat} {x : Int32} (lo2 : List (Nat × Value)) (hi : (kn : Nat) = i) (hn : i < nL) (hlo : (i, Value.int x) :: lo.filter (fun q => !(q.1 == i) && !(q.1 + 1 == i && q.2.category == 2)) = lo2) (hd : decode cc pc = .ok (.istore_n kn, 1)) (hq : pc + 1 = q) (k : NK p l e R s m args below meth c D nL A Q X cells slots q lo2 st) : NK p l e R s m args below meth c D nL A Q X cells slots pc lo (.int x :: st) := by
  subst hq
  exact fun H locs ls hP hD hS hl => lv_istore_n N.1 N.2.1 hd hi hl hn hlo (fun ls2 hl2 => k H locs ls2 hP hD hS hl2)
theorem n_astore (N : Nx p R s m args c D AC own cc nL A d mc ms) (q : Nat) {kn : Fin 4} {i : Nat} {x : Nat} (lo2 : List (Nat × Value)) (hi : (kn : Nat) = i) (hn : i < nL) (hlo : (i, Value.ref x) :: lo.filter (fun q => !(q.1 == i) && !(q.1 + 1 == i && q.2.category == 2)) = lo2) (hd : decode cc pc = .ok (.astore_n kn, 1)) (hq : pc + 1 = q) (k : NK p l e R s m args below meth c D nL A Q X cells slots q lo2 st) : NK p l e R s m args below meth c D nL A Q X cells slots pc lo (.ref x :: st) := by
  subst hq
  exact fun H locs ls hP hD hS hl => lv_astore_n N.1 N.2.1 hd hi hl hn hlo (fun ls2 hl2 => k H locs ls2 hP hD hS hl2)
theorem n_iinc (N : Nx p R s m args c D AC own cc nL A d mc ms) (q : Nat) {i : Nat} {n : Int} {x : Int32} (v : Int32) (j : Nat) (lo2 : List (Nat × Value)) (hj : lo[j]? = some (i, .int x)) (hv : x + Int32.ofInt n = v) (hn : i < nL) (hlo : (i, Value.int v) :: lo.filter (fun q => !(q.1 == i) && !(q.1 + 1 == i && q.2.category == 2)) = lo2) (hd : decode cc pc = .ok (.iinc i n, 3)) (hq : pc + 3 = q) (k : NK p l e R s m args below meth c D nL A Q X cells slots q lo2 st) : NK p l e R s m args below meth c D nL A Q X cells slots pc lo st := by
  subst hq
  exact fun H locs ls hP hD hS hl => lv_iinc N.1 N.2.1 hd hl hj hv hn hlo (fun ls2 hl2 => k H locs ls2 hP hD hS hl2)
theorem n_ge (N : Nx p R s m args c D AC own cc nL A d mc ms) (tgt q : Nat) {x y : Int32} {off : Int} (hd : decode cc pc = .ok (.if_icmp .ge off, 3)) (ht : (pc : Int) + off = (tgt : Int)) (hq : pc + 3 = q) (kt : y ≤ x → NK p l e R s m args below meth c D nL A Q X cells slots tgt lo st) (kf : ¬ (y ≤ x) → NK p l e R s m args below meth c D nL A Q X cells slots q lo st) : NK p l e R s m args below meth c D nL A Q X cells slots pc lo (.int y :: .int x :: st) := by
  subst hq
  exact fun H locs ls hP hD hS hl => lv_icmp_ge N.1 N.2.1 hd ht (fun h => kt h H locs ls hP hD hS hl) (fun h => kf h H locs ls hP hD hS hl)
theorem n_goto (N : Nx p R s m args c D AC own cc nL A d mc ms) (tgt : Nat) {off : Int} (hd : decode cc pc = .ok (.goto off, 3)) (ht : (pc : Int) + off = (tgt : Int)) (k : NK p l e R s m args below meth c D nL A Q X cells slots tgt lo st) : NK p l e R s m args below meth c D nL A Q X cells slots pc lo st := fun H locs ls hP hD hS hl => lv_goto N.1 N.2.1 hd ht (k H locs ls hP hD hS hl)
theorem n_obj (N : Nx p R s m args c D AC own cc nL A d mc ms) (q : Nat) {idx a : Nat} (hw : Cond.methodLink own idx objectInit ∈ wA) (hr : (st.map fun v => v.category).sum ≤ 8) (hd : decode cc pc = .ok (.invokespecial idx, 3)) (hq : pc + 3 = q) (k : NK p l e R s m args below meth c D nL A Q X cells slots q lo st) : NK p l e R s m args below meth c D nL A Q X cells slots pc lo (.ref a :: st) := by
  subst hq
  intro H locs ls hP hD hS hl
  refine W.objInit N.1 N.2.1 N.2.2.2.1 (N.2.2.2.2.1 _ hw) (N.2.2.2.2.1 _ obj_im) (N.2.2.2.2.1 _ obj_cd) rfl (N.2.2.1 ▸ hl.1) rfl hd ?_ ?_ ?_
  · have := N.2.2.2.2.2.2.2.1; omega
  · have h1 := N.2.2.2.2.2.2.2.2.1
    have h2 := lv_room (m := m) (pc := pc) (ls := ls) (rest := (.ref a :: st)) hr
    omega
  · exact W.eq (g2 := F0 m (pc + 3) ls st) rfl (k H locs ls hP hD hS hl)
theorem n_new (N : Nx p R s m args c D AC own cc nL A d mc ms) (q : Nat) {idx ci nf : Nat} {C : String} {T : u_T} {ty : Nat → FieldType} {fs : List Value} (hcl : Cond.classLink own idx C ∈ wA) (hin : Cond.instantiable C nf ∈ wA) (hini : Cond.initialized C ∈ wA) (hw : ∀ w ∈ u_ws C T nf, w ∈ wA) (PL : PLk C T nf ty) (hc : vwCl[ci]? = some (C, T, nf)) (hfs : ∀ j, j < nf → defaultValue (ty j) = vp_V fs j) (hcells : cells + 1 ≤ mc) (hslots : slots + nf ≤ ms) (hd : decode cc pc = .ok (.new idx, 3)) (hq : pc + 3 = q) (k : ∀ a : Nat, NK p l e R s m args below meth c D nL A Q (X ++ [(a, .inr (ci, fs))]) (cells + 1) (slots + nf) q lo (.ref a :: st)) : NK p l e R s m args below meth c D nL A Q X cells slots pc lo st := by
  subst hq
  intro H locs ls hP hD hS hl
  exact va_new N.1 N.2.1 N.2.2.2.2.1 hw ty PL.1 N.2.2.2.1 (N.2.2.2.2.1 _ hcl) (N.2.2.2.2.1 _ hin) (N.2.2.2.2.1 _ hini) N.2.2.2.2.2.1.1 hP hD hS N.2.2.2.2.2.2.1 hc hfs (Nat.le_trans hcells N.2.2.2.2.2.2.2.2.2.1) (Nat.le_trans hslots N.2.2.2.2.2.2.2.2.2.2) hd (fun a H1 hP1 hD1 hS1 => k a H1 locs ls hP1 hD1 hS1 hl)
theorem n_newa (N : Nx p R s m args c D AC own cc nL A d mc ms) (q : Nat) (k0 : Nat) {atype : ArrayType} {ty : FieldType} {cA : ClassId} {n : Int32} {n' : Nat} {a0 : vp_A} (harr : Cond.arrayClass (newarray.typeOf atype) ∈ wA) (hty : newarray.typeOf atype = ty) (ht : (tysC AC)[k0]? = some (cA, ty)) (ha : ∀ cA : ClassId, vp_cell cA a0 = arrV cA n' (fun _ => defaultValue ty)) (hn : ¬ n < 0) (hN : n.toNatClampNeg = n') (hbytes : n' * componentBytes ty ≤ 536870912) (hcells : cells + 1 ≤ mc) (hslots : slots + n' ≤ ms) (hd : decode cc pc = .ok (.newarray atype, 2)) (hq : pc + 2 = q) (k : ∀ a : Nat, NK p l e R s m args below meth c D nL A Q (X ++ [(a, .inl (cA, a0))]) (cells + 1) (slots + n') q lo (.ref a :: st)) : NK p l e R s m args below meth c D nL A Q X cells slots pc lo (.int n :: st) := by
  subst hq
  intro H locs ls hP hD hS hl
  refine va_newa N.1 N.2.1 (atype := atype) (N.2.2.2.2.1 _ harr) hty N.2.2.2.2.2.1.1 hP hD hS N.2.2.2.2.2.2.1 ha hn hN hbytes (Nat.le_trans hcells N.2.2.2.2.2.2.2.2.2.1) (Nat.le_trans hslots N.2.2.2.2.2.2.2.2.2.2) hd (fun a cB H1 hK1 hP1 hD1 hS1 => ?_)
  have e := vaK_same hK1 ht
  subst e
  exact k a H1 locs ls hP1 hD1 hS1 hl
theorem n_newq (N : Nx p R s m args c D AC own cc nL A d mc ms) (q : Nat) (k0 : Nat) {idx : Nat} {C : String} {cA : ClassId} {n : Int32} {n' : Nat} (hcl : Cond.classLink own idx C ∈ wA) (hover : va_AO C s) (ht : (tysC AC)[k0]? = some (cA, .object C)) (hn : ¬ n < 0) (hN : n.toNatClampNeg = n') (hbytes : n' * 4 ≤ 536870912) (hcells : cells + 1 ≤ mc) (hslots : slots + n' ≤ ms) (hd : decode cc pc = .ok (.anewarray idx, 3)) (hq : pc + 3 = q) (k : ∀ a : Nat, NK p l e R s m args below meth c D nL A Q (X ++ [(a, .inl (cA, n', .inr (.inr (.inr (.inr (fun _ => none))))))]) (cells + 1) (slots + n') q lo (.ref a :: st)) : NK p l e R s m args below meth c D nL A Q X cells slots pc lo (.int n :: st) := by
  subst hq
  intro H locs ls hP hD hS hl
  refine va_newq N.1 N.2.1 N.2.2.2.1 (N.2.2.2.2.1 _ hcl) hover N.2.2.2.2.2.1.1 hP hD hS N.2.2.2.2.2.2.1 hn hN hbytes (Nat.le_trans hcells N.2.2.2.2.2.2.2.2.2.1) (Nat.le_trans hslots N.2.2.2.2.2.2.2.2.2.2) hd (fun a cB H1 hK1 hP1 hD1 hS1 => ?_)
  have e := vaK_same hK1 ht
  subst e
  exact k a H1 locs ls hP1 hD1 hS1 hl
theorem n_putF (N : Nx p R s m args c D AC own cc nL A d mc ms) (hin : meth.name = "<init>") (q : Nat) {idx ci j nf : Nat} {C : String} {T : u_T} {ty : Nat → FieldType} {a : Nat} {fs : List Value} {v : Value} {X' : va_W} (F : FLk own idx ci j C T nf) (PL : PLk C T nf ty) (hfin : (T j).2.2.2 = true) (hdecl : (T j).1 = own) (hn : narrow (ty j) v = v) (hfit : fits (ty j) v = true) (hl0 : j < fs.length) (hd : decode cc pc = .ok (.putfield idx, 3)) (hq : pc + 3 = q) (k : NK p l e R s m args below meth c D nL A Q ((a, .inr (ci, fs.set j v)) :: X') cells slots q lo st) : NK p l e R s m args below meth c D nL A Q ((a, .inr (ci, fs)) :: X') cells slots pc lo (v :: .ref a :: st) := by
  subst hq
  intro H locs ls hP hD hS hl
  exact va_putF N.1 N.2.1 N.2.2.2.2.1 F.2.1 ty PL.1 PL.2 N.2.2.2.1 N.2.2.2.2.2.1.1 hP hD hS 0 rfl F.1 j F.2.2.1 (N.2.2.2.2.1 _ F.2.2.2) (fun _ h => h) hfin hin hdecl (PL.1 j F.2.2.1) hn hfit hl0 hd (fun H1 locs1 hP1 hD1 hS1 => k H1 locs1 ls hP1 hD1 hS1 hl)
theorem n_put (N : Nx p R s m args c D AC own cc nL A d mc ms) (q : Nat) {idx ci j nf : Nat} {C : String} {T : u_T} {ty : Nat → FieldType} {a : Nat} {fs : List Value} {v : Value} {X' : va_W} (F : FLk own idx ci j C T nf) (PL : PLk C T nf ty) (hfin : (T j).2.2.2 = false) (hn : narrow (ty j) v = v) (hfit : fits (ty j) v = true) (hl0 : j < fs.length) (hd : decode cc pc = .ok (.putfield idx, 3)) (hq : pc + 3 = q) (k : NK p l e R s m args below meth c D nL A Q ((a, .inr (ci, fs.set j v)) :: X') cells slots q lo st) : NK p l e R s m args below meth c D nL A Q ((a, .inr (ci, fs)) :: X') cells slots pc lo (v :: .ref a :: st) := by
  subst hq
  intro H locs ls hP hD hS hl
  exact va_put N.1 N.2.1 N.2.2.2.2.1 F.2.1 ty PL.1 PL.2 N.2.2.2.1 N.2.2.2.2.2.1.1 hP hD hS 0 rfl F.1 j F.2.2.1 (N.2.2.2.2.1 _ F.2.2.2) (fun _ h => h) hfin (PL.1 j F.2.2.1) hn hfit hl0 hd (fun H1 locs1 hP1 hD1 hS1 => k H1 locs1 ls hP1 hD1 hS1 hl)
theorem n_get (N : Nx p R s m args c D AC own cc nL A d mc ms) (q : Nat) {idx ci j nf : Nat} {C : String} {T : u_T} {a : Nat} {fs : List Value} {v : Value} {X' : va_W} (F : FLk own idx ci j C T nf) (hv : fs[j]? = some v) (hd : decode cc pc = .ok (.getfield idx, 3)) (hq : pc + 3 = q) (k : NK p l e R s m args below meth c D nL A Q ((a, .inr (ci, fs)) :: X') cells slots q lo (v :: st)) : NK p l e R s m args below meth c D nL A Q ((a, .inr (ci, fs)) :: X') cells slots pc lo (.ref a :: st) := by
  subst hq
  exact fun H locs ls hP hD hS hl => va_get N.1 N.2.1 N.2.2.2.2.1 F.2.1 N.2.2.2.1 N.2.2.2.2.2.1.1 hP 0 rfl F.1 j F.2.2.1 (N.2.2.2.2.1 _ F.2.2.2) (fun _ h => h) hv hd (k H locs ls hP hD hS hl)
theorem n_aast (N : Nx p R s m args c D AC own cc nL A d mc ms) (q t0 i : Nat) {ci a v n : Nat} {cA : ClassId} {r : vw_C} {vs : List Value} {f : Nat → Option Nat} {x : Int32} {x0 : Nat × va_E} {X' : va_W} (ht : (tysC AC)[t0]? = some (cA, .object r.1)) (hc : vwCl[ci]? = some r) (hx : x = nI i) (hi : i < n) (hn : n < 2000) (hd : decode cc pc = .ok (.aastore, 1)) (hq : pc + 1 = q) (k : NK p l e R s m args below meth c D nL A Q (x0 :: (a, .inl (cA, n, .inr (.inr (.inr (.inr (va_up f i (some v))))))) :: (v, .inr (ci, vs)) :: X') cells slots q lo st) : NK p l e R s m args below meth c D nL A Q (x0 :: (a, .inl (cA, n, .inr (.inr (.inr (.inr f))))) :: (v, .inr (ci, vs)) :: X') cells slots pc lo (.ref v :: .int x :: .ref a :: st) := by
  subst hq; subst hx
  intro H locs ls hP hD hS hl
  refine va_astq N.1 N.2.1 N.2.2.2.2.2.1.1 hP hD hS 1 t0 2 ci rfl ht rfl hc (vp_in_nI hi (by omega)) hd (fun H1 locs1 hP1 hD1 hS1 => ?_)
  rw [nI_clamp (by omega)] at hP1 hD1
  exact k H1 locs1 ls hP1 hD1 hS1 hl
theorem n_iast (N : Nx p R s m args c D AC own cc nL A d mc ms) (q t0 i : Nat) {a n : Nat} {cA : ClassId} {f : Nat → Int32} {x y : Int32} {x0 : Nat × va_E} {X' : va_W} (ht : (tysC AC)[t0]? = some (cA, .int)) (hx : x = nI i) (hi : i < n) (hn : n < 2000) (hd : decode cc pc = .ok (.iastore, 1)) (hq : pc + 1 = q) (k : NK p l e R s m args below meth c D nL A Q (x0 :: (a, .inl (cA, n, .inl (upd f i y))) :: X') cells slots q lo st) : NK p l e R s m args below meth c D nL A Q (x0 :: (a, .inl (cA, n, .inl f)) :: X') cells slots pc lo (.int y :: .int x :: .ref a :: st) := by
  subst hq; subst hx
  intro H locs ls hP hD hS hl
  refine va_iast N.1 N.2.1 N.2.2.2.2.2.1.1 hP hD hS 1 t0 rfl ht (vp_in_nI hi (by omega)) hd (fun H1 locs1 hP1 hD1 hS1 => ?_)
  rw [nI_clamp (by omega)] at hP1 hD1
  exact k H1 locs1 ls hP1 hD1 hS1 hl
theorem n_free {a : Nat} {e0 : va_E} {H0 H : Heap} {locs : List Loc} (hD : va_D A (X ++ [(a, e0)])) (hS : va_S A H0 H locs) (hA : ∀ q, H0.size ≤ q → A q) : ∀ q, va_A [(a, e0)] H.size q → A q := by
  rintro q (⟨k, e, h⟩ | h)
  · obtain ⟨-, he⟩ := n_one h
    subst he
    exact hD.2 X.length (q, e0) (by simp)
  · exact hA q (Nat.le_trans hS.1 h)
theorem n_rooms {R : Room} {d d0 nL0 : Nat} (h1 : d + 1 ≤ R.frames) (h2 : 48 * d + 48 ≤ R.locals) (hd0 : d0 < d) (hnL : nL0 ≤ 21) {mc0 ms0 : Nat} : (rmN d0 mc0 ms0).frames + 1 ≤ R.frames ∧ 8 + (nL0 + 11) + (rmN d0 mc0 ms0).locals ≤ R.locals := by
  refine ⟨?_, ?_⟩
  · show d0 + 1 + 1 ≤ _; omega
  · show 8 + (nL0 + 11) + (48 * d0 + 48) ≤ _; omega
theorem n_init (N : Nx p R s m args c D AC own cc nL A d mc ms) (q : Nat) {y : MethodName} {cc0 : ByteArray} {nL0 d0 mc0 ms0 n idx : Nat} {As sti : List Value} {a : Nat} {e0 : va_E} {ws : (Nat → Nat) → va_W} (hlink : Cond.methodLink own idx y ∈ wA) (him : Cond.instanceMethod y ∈ wA) (hM : CtrN l D AC y cc0 nL0 d0 mc0 ms0 As a e0 ws) (hm : MLk y cc0 nL0 none n) (hy0 : y.name = "<init>") (hd0 : d0 < d) (hnL : nL0 ≤ 21) (hA : As.length = n) (hsti : sti = As.reverse ++ .ref a :: st) (hr : (st.map fun v => v.category).sum ≤ 8) (hcells : cells + mc0 ≤ mc) (hslots : slots + ms0 ≤ ms) (hd : decode cc pc = .ok (.invokespecial idx, 3)) (hq : pc + 3 = q) (k : ∀ b : Nat → Nat, NK p l e R s m args below meth c D nL A Q (X ++ ws b) (cells + mc0) (slots + ms0) q lo st) : NK p l e R s m args below meth c D nL A Q (X ++ [(a, e0)]) cells slots pc lo sti := by
  subst hq; subst hsti
  intro H locs ls hP hD hS hl
  have hF := n_free hD hS N.2.2.2.2.2.2.1
  have hrun := va_runI (e := e) (locs := locs) (cells := cells) (slots := slots) (g := F0 m pc ls (As.reverse ++ .ref a :: st)) (As := As) (b := a) (rest := st) (below := below) (meth := meth) (H := H) (p := p) (c := c) ⟨N.1, N.2.1, N.2.2.1, N.2.2.2.1, N.2.2.2.2.1⟩ (hM H.size) (cwI n N.2.2.2.2.1 (wA_good hm.1) rfl rfl rfl (N.2.2.2.2.1 _ hm.2.1) (N.2.2.2.2.1 _ hlink) (N.2.2.2.2.1 _ him) hy0 ⟨hm.2.2.1, hm.2.2.2.1, hm.2.2.2.2⟩ (n_rooms N.2.2.2.2.2.2.2.1 N.2.2.2.2.2.2.2.2.1 hd0 hnL)) ⟨nPre_blind, fun U hU hW => ⟨rfl, by rw [hU], by rw [hU]; exact fun k q hk => hP (X.length + k) q (by rw [List.getElem?_append_right (by omega), Nat.add_sub_cancel_left]; exact hk), Kd_warm hW N.2.2.2.2.2.1⟩⟩ rfl hA hl.1 rfl (lv_room hr) hd ⟨Nat.le_trans hcells N.2.2.2.2.2.2.2.2.2.1, Nat.le_trans hslots N.2.2.2.2.2.2.2.2.2.2⟩
  refine va_callv hrun hS (fun q _ h => hF q h) hF (fun b t H1 locs1 ht hvm _ hB hz hk hS1 => ?_)
  obtain ⟨hP1, hD1⟩ := hB
  rw [ht] at hP1
  obtain ⟨hP2, hD2⟩ := n_join hP hD hk hF hP1 hD1
  exact k b H1 locs1 ls hP2 hD2 hS1 hl
theorem n_initN (N : Nx p R s m args c D AC own cc nL A d mc ms) (q : Nat) {y : MethodName} {cc0 : ByteArray} {nL0 d0 mc0 ms0 n idx : Nat} {As sti : List Value} {a : Nat} {e0 : va_E} {ws : (Nat → Nat) → va_W} {host : String} (hlink : Cond.methodLinkNest own idx y host ∈ NW) (him : Cond.instanceMethod y ∈ wA) (hM : CtrN l D AC y cc0 nL0 d0 mc0 ms0 As a e0 ws) (hm : MLk y cc0 nL0 none n) (hy0 : y.name = "<init>") (hd0 : d0 < d) (hnL : nL0 ≤ 21) (hA : As.length = n) (hsti : sti = As.reverse ++ .ref a :: st) (hr : (st.map fun v => v.category).sum ≤ 8) (hcells : cells + mc0 ≤ mc) (hslots : slots + ms0 ≤ ms) (hd : decode cc pc = .ok (.invokespecial idx, 3)) (hq : pc + 3 = q) (k : ∀ b : Nat → Nat, NK p l e R s m args below meth c D nL A Q (X ++ ws b) (cells + mc0) (slots + ms0) q lo st) : NK p l e R s m args below meth c D nL A Q (X ++ [(a, e0)]) cells slots pc lo sti := by
  subst hq; subst hsti
  intro H locs ls hP hD hS hl
  have hF := n_free hD hS N.2.2.2.2.2.2.1
  have hrun := va_runIN (e := e) (locs := locs) (cells := cells) (slots := slots) (g := F0 m pc ls (As.reverse ++ .ref a :: st)) (As := As) (b := a) (rest := st) (below := below) (meth := meth) (H := H) (p := p) (c := c) ⟨N.1, N.2.1, N.2.2.1, N.2.2.2.1, N.2.2.2.2.1⟩ (hM H.size) ⟨va_cnB n N.2.2.2.2.1 (wA_good hm.1) rfl rfl rfl (N.2.2.2.2.2.1.2.1 _ hlink) (N.2.2.2.2.1 _ hm.2.1) ⟨hm.2.2.1, hm.2.2.2.1, hm.2.2.2.2⟩ (n_rooms N.2.2.2.2.2.2.2.1 N.2.2.2.2.2.2.2.2.1 hd0 hnL), hy0, N.2.2.2.2.1 _ him⟩ ⟨nPre_blind, fun U hU hW => ⟨rfl, by rw [hU], by rw [hU]; exact fun k q hk => hP (X.length + k) q (by rw [List.getElem?_append_right (by omega), Nat.add_sub_cancel_left]; exact hk), Kd_warm hW N.2.2.2.2.2.1⟩⟩ rfl hA hl.1 rfl (lv_room hr) hd ⟨Nat.le_trans hcells N.2.2.2.2.2.2.2.2.2.1, Nat.le_trans hslots N.2.2.2.2.2.2.2.2.2.2⟩
  refine va_callv hrun hS (fun q _ h => hF q h) hF (fun b t H1 locs1 ht hvm _ hB hz hk hS1 => ?_)
  obtain ⟨hP1, hD1⟩ := hB
  rw [ht] at hP1
  obtain ⟨hP2, hD2⟩ := n_join hP hD hk hF hP1 hD1
  exact k b H1 locs1 ls hP2 hD2 hS1 hl
theorem n_ret {h0 : Nat} {e0 : va_E} {ws : (Nat → Nat) → va_W} (N : Nx p R s m args c D AC own cc nL (va_A [(h0, e0)] s.heap.size) d mc ms) (hr : meth.sig.returnType = none) (hlocks : meth.locks = false) (b : Nat → Nat) (hX : List.Perm X (ws b)) (hc : cells ≤ mc) (hs : slots ≤ ms) (hd : decode cc pc = .ok (.return_, 1)) : NK p l e R s m args below meth c D nL (va_A [(h0, e0)] s.heap.size) (MQ below (nQ D h0 s.heap.size e0 ws) args s mc ms (va_A [(h0, e0)] s.heap.size)) X cells slots pc lo [] := by
  intro H locs ls hP hD hS hl
  refine W.widen (k := mc) (n := ms) hc hs ?_
  exact W.vret N.1 N.2.1 hr (fun t ht hW => ⟨⟨b, rfl, trivial, by rw [ht]; exact vaP_perm hX hP, vaD_perm hX hD⟩, hS.F ht⟩) hS.2.2 hd hlocks
end NK
theorem ctrN_of {l : Launch} {D : va_G} {AC : Nat → ClassId} {y : MethodName} {cc : ByteArray} {nL d mc ms : Nat} {As : List Value} {h0 : Nat} {e0 : va_E} {ws : (Nat → Nat) → va_W} (hy : plainName y.cls = true) (hy0 : y.name = "<init>") (hlen : (lg_sl (.ref h0 :: As)).length ≤ nL)
    (body : ∀ (p : Program) (e : Env) (R : Room) (s : State) (m : MethodId) (args : Array Value) (below : List Frame) (meth : Method) (c : Code), Nx p R s m args c D AC y.cls cc nL (va_A [(h0, e0)] s.heap.size) d mc ms → meth.name = "<init>" → meth.sig.returnType = none → meth.locks = false → NK p l e R s m args below meth c D nL (va_A [(h0, e0)] s.heap.size) (MQ below (nQ D h0 s.heap.size e0 ws) args s mc ms (va_A [(h0, e0)] s.heap.size)) [(h0, e0)] 0 0 0 (lv_args 0 (.ref h0 :: As)) []) : CtrN l D AC y cc nL d mc ms As h0 e0 ws := by
  intro sz
  refine Met.ofW (cc := cc) (maxL := nL) (ret := none) hy rfl ?_
  intro p e s m args below meth c s₁ B hml hv
  obtain ⟨rfl, hsz, hP, hK⟩ := hv
  subst hsz
  have hl := lv_entry (.ref h0 :: As) (n := nL) hlen
  rw [lg_entry_eq]
  exact body p e _ s m _ below meth c ⟨B.exec, B.bytes, hml, findClass_of_methodNamed B.named, fun w hw => atoms_spec (ws := .code y cc nL none :: wA) B.pre w (List.mem_cons_of_mem _ hw), hK, fun q h => Or.inr h, Nat.le_refl _, Nat.le_refl _, Nat.le_refl _, Nat.le_refl _⟩ (((name_of_methodNamed B.named B.method).1).trans hy0) B.returns B.notSynchronized s.heap [] _ hP ⟨fun i j x z hx hz _ => by
    obtain ⟨h1, -⟩ := n_one (q := x.1) (e := x.2) hx
    obtain ⟨h2, -⟩ := n_one (q := z.1) (e := z.2) hz
    omega, fun k q hk => Or.inl ⟨k, q.2, hk⟩⟩ va_S.rf hl
