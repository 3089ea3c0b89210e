/-! THE CLAIM OUT OF ONE WALK OF THE LAW'S BODY. Your part is whole_start (and what it stands on); all else here is the same for every law, but numbers. -/
def R_law : String := "FurrowTalkLaw"
def lw_P (b : Addr) (xs : List Int32) (args : Array Value) (s : State) : Prop := args = #[.ref b] ∧ s.IntsAt b xs ∧ xs.length ≤ 3072 ∧ (Jvm.Cond.and given_1 narrow_1).before args s = true
def lw_Q (_ : Array Value) (s : State) (o : Outcome) (t : State) : Prop := o = .returned (some (.int 1)) ∧ Framed s o t [] 600000 7302249
def lw_Z (below : List Frame) (a : Array Value) (s : State) : State → Prop := fun t => ∃ o, t.status = .running ∧ Ended t below o ∧ lw_Q a s o t
/-- the law's own end, with 1 on the stack, nothing written that was there before, its room as the claim has it -/
theorem lw_ret {p : Program} {l : Launch} {e : Env} {s : State} {m : MethodId} {below : List Frame} {meth : Method} {c : Code} {b : Nat} (hx : p.tables.exec = Jvm.exec) (hb : c.code = code) (hr : meth.sig.returnType = ret) (hlocks : meth.locks = false) {pc : Nat} {H : Heap} {ls : Array Slot} (hdg : decode code pc = .ok (.ireturn, 1)) : W p l e room_1 s m #[Value.ref b] below meth c H [] 600000 7302249 (lw_Z below #[Value.ref b] s) (F0 m pc ls [.int 1]) := by
  intro T hT X
  obtain ⟨fs, hret, hrun, hended, hW, hframe⟩ := X.leave (v := some (.int 1)) (hlocks := hlocks) (fun h => by rw [hr] at h; cases h)
  have hmeth' : T.vm.method? m = some meth := X.method'
  refine ⟨T.setFrames fs, ?_, .returned (some (.int 1)), hrun, hended, rfl, ⟨_, rfl⟩, hW, hframe⟩
  jvm_step X.here [X.here.top, hx, hb, hdg, hmeth', hr, ret, narrow_b1]
  (try refine ⟨rfl, ?_⟩); (try refine ⟨rfl, ?_⟩)
  first | (intro acts; rw [hret _ acts rfl rfl rfl]) | rw [hret _ _ rfl rfl rfl]
  exact Steps.refl _
/-- what holds at the law's entry: the machine, the code, the tables' words (any of lw_tbl by 'hts w (by decide +kernel)'), the script of L ints xs at the cell b, what the Statement gives of the start (any of its parts by flat_of_before) -/
def lw_At (p : Program) (s : State) (m : MethodId) (meth : Method) (c : Code) (b L : Nat) (xs : Nat → Int32) : Prop :=
  p.tables.exec = Jvm.exec ∧ c.code = code ∧ meth.sig.returnType = ret ∧ c.maxLocals = 4 ∧ s.vm.findClass R_law = some m.cls ∧ (∀ w ∈ lw_tbl, w.before #[Value.ref b] s = true) ∧ va_X b L xs s s.heap ∧ b < s.heap.size ∧ meth.locks = false ∧ (Jvm.Cond.and given_1 narrow_1).before #[Value.ref b] s = true
-- the law's rules
theorem and63 (a : Int32) : ∃ k, k < 64 ∧ a &&& 63 = nI k := by
  have h : (a &&& 63).toBitVec.toNat = a.toBitVec.toNat &&& 63 := BitVec.toNat_and _ _
  have h2 : (a.toBitVec.toNat &&& 63) ≤ 63 := Nat.and_le_right
  refine ⟨a.toBitVec.toNat &&& 63, by omega, ?_⟩
  apply Int32.toBitVec_inj.mp
  apply BitVec.eq_of_toNat_eq
  rw [h, pk_tn (by omega)]
section LK
variable {p : Program} {l : Launch} {e : Env} {s : State} {m : MethodId} {below : List Frame} {meth : Method} {c : Code} {b L : Nat} {xs : Nat → Int32} {g : GT} {M : Mem} {pc : Nat} {lo : List (Nat × Value)} {st : List Value} {i : Nat}
def LX (p : Program) (s : State) (m : MethodId) (meth : Method) (c : Code) (b L : Nat) (xs : Nat → Int32) (g : GT) : Prop :=
  lw_At p s m meth c b L xs ∧ (∀ w ∈ wA, w.before #[Value.ref b] s = true) ∧ va_K (gD g) vwCl (tysG g) s ∧ (∀ M : Mem, va_D (gA g) (wl g M)) ∧ (∀ w ∈ NW, va_Nw w s) ∧ SZ g s s.heap ∧ gl g = s.heap.size ∧ L ≤ 3072
def LK (p : Program) (l : Launch) (e : Env) (s : State) (m : MethodId) (below : List Frame) (meth : Method) (c : Code) (b : Nat) (g : GT) (M : Mem) (pc : Nat) (lo : List (Nat × Value)) (st : List Value) : Prop :=
  ∀ (H : Heap) (locs : List Loc) (ls : Array Slot), va_P (gD g) vwCl (wl g M) H → va_S (gA g) s.heap H locs → lv_has ls 4 lo → W p l e room_1 s m #[Value.ref b] below meth c H locs 105 3024 (lw_Z below #[Value.ref b] s) (F0 m pc ls st)
def lo0 (g : GT) (b i : Nat) : List (Nat × Value) := [(3, .int (nI i)), (0, .ref b), (1, .ref (ga g 90)), (2, .ref (ga g 91))]
theorem l_aload (X : LX p s m meth c b L xs g) (q : Nat) {kn : Fin 4} {i : Nat} {x : Nat} (j : Nat) (hi : (kn : Nat) = i) (hlo : lo[j]? = some (i, .ref x)) (hd : decode code pc = .ok (.aload_n kn, 1)) (hq : pc + 1 = q) (k : LK p l e s m below meth c b g M q lo (.ref x :: st)) : LK p l e s m below meth c b g M pc lo st := by
  subst hq
  exact fun H locs ls hP hS hl => lv_aload_n X.1.1 X.1.2.1 hd hi (lv_at hl j hlo) (k H locs ls hP hS hl)
theorem l_bipush (X : LX p s m meth c b L xs g) (q : Nat) {n : Int} {v : Int32} (hv : (Int8.ofInt n).toInt32 = v) (hd : decode code pc = .ok (.bipush n, 2)) (hq : pc + 2 = q) (k : LK p l e s m below meth c b g M q lo (.int v :: st)) : LK p l e s m below meth c b g M pc lo st := by
  subst hq
  exact fun H locs ls hP hS hl => lv_bipush X.1.1 X.1.2.1 hd hv (k H locs ls hP hS hl)
theorem l_i2l (X : LX p s m meth c b L xs g) (q : Nat) {x : Int32} (hd : decode code pc = .ok (.i2l, 1)) (hq : pc + 1 = q) (k : LK p l e s m below meth c b g M q lo (.long x.toInt64 :: st)) : LK p l e s m below meth c b g M pc lo (.int x :: st) := by
  subst hq
  exact fun H locs ls hP hS hl => lv_i2l X.1.1 X.1.2.1 hd rfl (k H locs ls hP hS hl)
theorem l_lshl (X : LX p s m meth c b L xs g) (q : Nat) {x : Int64} {y : Int32} (hd : decode code pc = .ok (.lshl, 1)) (hq : pc + 1 = q) (k : LK p l e s m below meth c b g M q lo (.long (x <<< (y.toInt64 &&& 63)) :: st)) : LK p l e s m below meth c b g M pc lo (.int y :: .long x :: st) := by
  subst hq
  exact fun H locs ls hP hS hl => lv_lshl X.1.1 X.1.2.1 hd rfl (k H locs ls hP hS hl)
theorem l_land (X : LX p s m meth c b L xs g) (q : Nat) {x y : Int64} (hd : decode code pc = .ok (.land, 1)) (hq : pc + 1 = q) (k : LK p l e s m below meth c b g M q lo (.long (x &&& y) :: st)) : LK p l e s m below meth c b g M pc lo (.long y :: .long x :: st) := by
  subst hq
  exact fun H locs ls hP hS hl => lv_land X.1.1 X.1.2.1 hd (k H locs ls hP hS hl)
theorem l_lor (X : LX p s m meth c b L xs g) (q : Nat) {x y : Int64} (hd : decode code pc = .ok (.lor, 1)) (hq : pc + 1 = q) (k : LK p l e s m below meth c b g M q lo (.long (x ||| y) :: st)) : LK p l e s m below meth c b g M pc lo (.long y :: .long x :: st) := by
  subst hq
  exact fun H locs ls hP hS hl => lv_lor X.1.1 X.1.2.1 hd (k H locs ls hP hS hl)
theorem l_ldc2 (X : LX p s m meth c b L xs g) (q : Nat) {idx : Nat} {v : Int64} (hw : Cond.constantLong R_law idx v ∈ wA) (hd : decode code pc = .ok (.ldc2_w idx, 3)) (hq : pc + 3 = q) (k : LK p l e s m below meth c b g M q lo (.long v :: st)) : LK p l e s m below meth c b g M pc lo st := by
  subst hq
  exact fun H locs ls hP hS hl => lv_ldc2 X.1.1 X.1.2.1 X.1.2.2.2.2.1 (X.2.1 _ hw) hd (k H locs ls hP hS hl)
theorem l_nb (X : LX p s m meth c b L xs g) : ¬ gA g b := by
  have h1 := X.2.2.2.2.2.2.1
  have h2 := X.1.2.2.2.2.2.2.2.1
  show ¬ gl g ≤ b
  omega
/-- one number of the script -/
theorem l_arg (X : LX p s m meth c b L xs g) (hi : i + 6 ≤ L) (j q : Nat) {n : Int} (hj : j < 6) (hn : Int32.ofInt n = nI j) (h1 : decode code pc = .ok (.aload_n 0, 1)) (h2 : decode code (pc + 1) = .ok (.iload_n 3, 1)) (h3 : decode code (pc + 2) = .ok (.iconst n, 1)) (h4 : decode code (pc + 3) = .ok (.iadd, 1)) (h5 : decode code (pc + 4) = .ok (.iaload, 1)) (hq : pc + 5 = q) (k : LK p l e s m below meth c b g M q (lo0 g b i) (.int (xs (i + j)) :: st)) : LK p l e s m below meth c b g M pc (lo0 g b i) st := by
  subst hq
  intro H locs ls hP hS hl
  have hL := X.2.2.2.2.2.2.2
  refine lv_aload_n X.1.1 X.1.2.1 h1 rfl (lv_at hl 1 rfl) ?_
  refine lv_iload_n X.1.1 X.1.2.1 h2 rfl (lv_at hl 0 rfl) ?_
  refine lv_iconst X.1.1 X.1.2.1 h3 hn ?_
  refine lv_iadd X.1.1 X.1.2.1 h4 ?_
  rw [nI_add]
  refine va_sld X.1.1 X.1.2.1 X.1.2.2.2.2.2.2.1 X.1.2.2.2.2.2.2.2.1 (l_nb X) hS (vp_in_nI (by omega) (by omega)) h5 ?_
  rw [nI_clamp (by omega)]
  exact k H locs ls hP hS hl
theorem l_wd {H : Heap} {locs : List Loc} (X : LX p s m meth c b L xs g) (hP : va_P (gD g) vwCl (wl g M) H) (hS : va_S (gA g) s.heap H locs) : ∀ U : State, U.heap = H → s.WarmedH U.vm → Wd g M U := by
  intro U hU hW
  refine ⟨by rw [hU]; exact hP, va_K.moved hW.alike X.2.2.1, X.2.2.2.1 M, NW_warm hW X.2.2.2.2.1, ?_⟩
  rw [hU]
  exact SZ.moved hW.alike (X.2.2.2.2.2.1.kept (fun a h1 h2 => hS.2.1 a h1 h2))
theorem l_rooms {d0 n : Nat} (h : d0 ≤ 60) (hn : n ≤ 21) : (rmD d0).frames + 1 ≤ room_1.frames ∧ 8 + (n + 11) + (rmD d0).locals ≤ room_1.locals := by
  refine ⟨?_, ?_⟩
  · show d0 + 1 + 1 ≤ 2048; omega
  · show 8 + (n + 11) + (48 * d0 + 48) ≤ 84000; omega
theorem l_call (X : LX p s m meth c b L xs g) (q : Nat) {y : MethodName} {cc0 : ByteArray} {nL0 d0 n idx : Nat} {As : List Value} {sti : List Value} {post : Int32 → Mem → Prop} (k0 : Nat) {ci : Nat} {fs : List Value} {qc : vw_C} (hk : k0 < 105) (he : cE g k0 (M k0) = .inr (ci, fs)) (hc : vwCl[ci]? = some qc) (hcn : qc.1 = y.cls) (hlink : Cond.methodLink R_law idx y ∈ wA) (hv0 : VLk y) (hM : CtrI l g y cc0 nL0 (some .int) d0 (.ref (ga g k0) :: As) M post) (hm : MLk y cc0 nL0 (some .int) n) (hd0 : d0 ≤ 60) (hnL : nL0 ≤ 21) (hA : As.length = n) (hsti : sti = As.reverse ++ .ref (ga g k0) :: st) (hr : (st.map fun v => v.category).sum ≤ 8) (hd : decode code pc = .ok (.invokevirtual idx, 3)) (hq : pc + 3 = q) (k : ∀ (r : Int32) (M1 : Mem), post r M1 → LK p l e s m below meth c b g M1 q lo (.int r :: st)) : LK p l e s m below meth c b g M pc lo sti := by
  subst hq; subst hsti
  intro H locs ls hP hS hl
  have hw := X.2.1
  have hrun := va_runV (e := e) (R := room_1) (locs := locs) (cells := 105) (slots := 3024) (g := F0 m pc ls (As.reverse ++ .ref (ga g k0) :: st)) (C := y.cls) (b := ga g k0) (As := As) (rest := st) (below := below) (meth := meth) (H := H) (p := p) (c := c) ⟨X.1.1, X.1.2.1, X.1.2.2.2.1, X.1.2.2.2.2.1, hw⟩ hM ⟨callB_of n hw (wA_good hm.1) rfl rfl rfl (hw _ hm.2.1) (hw _ hlink) ⟨hm.2.2.1, hm.2.2.2.1, hm.2.2.2.2⟩ (l_rooms hd0 hnL), hw _ hv0.1, hw _ hv0.2⟩ ⟨Wd_blind, by have h := va_recv X.2.2.1 hP (ci := ci) (q0 := k0) hc (by rw [wl_get g M hk, he]); rw [hcn] at h; exact h, fun U hU hW => ⟨rfl, l_wd X hP hS U hU hW⟩⟩ rfl hA hl.1 rfl (lv_room hr) hd ⟨Nat.le_of_ble_eq_true rfl, Nat.le_of_ble_eq_true rfl⟩
  intro T hT Y
  obtain ⟨v, st₀, t, T', L', h0, X', hL', e1, e2, ⟨⟨r, M1, hv, hp, hb⟩, hz, hk'⟩, stp⟩ := hrun T hT Y
  cases hv
  rw [h0] at hz hk'
  obtain ⟨t2, a1, b1⟩ := k r M1 hp T'.heap (locs ++ L') ls (by rw [e1]; exact hb) ⟨Nat.le_trans hS.1 (by rw [e1]; exact hz), fun q h1 h2 => by rw [e1, hk' q (Nat.lt_of_lt_of_le h1 hS.1) h2]; exact hS.2.1 q h1 h2, fun q hq => by
      rcases List.mem_append.mp hq with h | h
      · exact hS.2.2 q h
      · exact hL' q h⟩ hl T' rfl X'
  exact ⟨t2, stp t2 a1, b1⟩
theorem l_eq (X : LX p s m meth c b L xs g) (tgt : Nat) {x : Int32} {off : Int} (hd : decode code pc = .ok (.if_icmp .eq off, 3)) (ht : (pc : Int) + off = (tgt : Int)) (k : LK p l e s m below meth c b g M tgt lo st) : LK p l e s m below meth c b g M pc lo (.int x :: .int x :: st) :=
  fun H locs ls hP hS hl => lv_icmp_eq X.1.1 X.1.2.1 hd ht (fun _ => k H locs ls hP hS hl) (fun z => absurd rfl z)
theorem mwL_13 : Cond.methodLink R_law 13 yX9_plough ∈ wA := wA_sub_2 _ (List.mem_of_getElem? (i := 95) (by decide +kernel))
theorem mwL_17 : Cond.methodLink R_law 17 yX10_plough ∈ wA := wA_sub_7 _ (List.mem_of_getElem? (i := 96) (by decide +kernel))
theorem mwL_18 : Cond.methodLink R_law 18 yX9_furrowIs ∈ wA := wA_sub_3 _ (List.mem_of_getElem? (i := 26) (by decide +kernel))
theorem mwL_22 : Cond.methodLink R_law 22 yX10_furrowIs ∈ wA := wA_sub_8 _ (List.mem_of_getElem? (i := 21) (by decide +kernel))
theorem mwL_23 : Cond.methodLink R_law 23 yX9_become ∈ wA := wA_sub_3 _ (List.mem_of_getElem? (i := 89) (by decide +kernel))
theorem mwL_26 : Cond.methodLink R_law 26 yX10_become ∈ wA := wA_sub_8 _ (List.mem_of_getElem? (i := 61) (by decide +kernel))
theorem mwL_27 : Cond.methodLink R_law 27 yX9_as ∈ wA := wA_sub_3 _ (List.mem_of_getElem? (i := 94) (by decide +kernel))
theorem mwL_30 : Cond.methodLink R_law 30 yX10_as ∈ wA := wA_sub_8 _ (List.mem_of_getElem? (i := 68) (by decide +kernel))
theorem mwL_31 : Cond.methodLink R_law 31 yX9_answers ∈ wA := wA_sub_4 _ (List.mem_of_getElem? (i := 6) (by decide +kernel))
theorem mwL_34 : Cond.methodLink R_law 34 yX10_answers ∈ wA := wA_sub_8 _ (List.mem_of_getElem? (i := 73) (by decide +kernel))
theorem mwL_35 : Cond.methodLink R_law 35 yX9_cover ∈ wA := wA_sub_4 _ (List.mem_of_getElem? (i := 11) (by decide +kernel))
theorem mwL_38 : Cond.methodLink R_law 38 yX10_cover ∈ wA := wA_sub_8 _ (List.mem_of_getElem? (i := 77) (by decide +kernel))
theorem mwL_39 : Cond.methodLink R_law 39 yX9_redraw ∈ wA := wA_sub_4 _ (List.mem_of_getElem? (i := 15) (by decide +kernel))
theorem mwL_42 : Cond.methodLink R_law 42 yX10_redraw ∈ wA := wA_sub_8 _ (List.mem_of_getElem? (i := 81) (by decide +kernel))
theorem mwL_43 : Cond.methodLink R_law 43 yX9_patience ∈ wA := wA_sub_4 _ (List.mem_of_getElem? (i := 24) (by decide +kernel))
theorem mwL_47 : Cond.methodLink R_law 47 yX10_patience ∈ wA := wA_sub_8 _ (List.mem_of_getElem? (i := 85) (by decide +kernel))
theorem mwL_50 : Cond.methodLink R_law 50 yX9_feed ∈ wA := wA_sub_4 _ (List.mem_of_getElem? (i := 28) (by decide +kernel))
theorem mwL_54 : Cond.methodLink R_law 54 yX10_feed ∈ wA := wA_sub_8 _ (List.mem_of_getElem? (i := 89) (by decide +kernel))
theorem mwL_55 : Cond.methodLink R_law 55 yX9_text ∈ wA := wA_sub_4 _ (List.mem_of_getElem? (i := 32) (by decide +kernel))
theorem mwL_58 : Cond.methodLink R_law 58 yX10_text ∈ wA := wA_sub_8 _ (List.mem_of_getElem? (i := 94) (by decide +kernel))
theorem mwL_59 : Cond.methodLink R_law 59 yX9_untell ∈ wA := wA_sub_4 _ (List.mem_of_getElem? (i := 86) (by decide +kernel))
theorem mwL_62 : Cond.methodLink R_law 62 yX10_untell ∈ wA := wA_sub_9 _ (List.mem_of_getElem? (i := 31) (by decide +kernel))
theorem mwL_63 : Cond.methodLink R_law 63 yX9_law ∈ wA := wA_sub_4 _ (List.mem_of_getElem? (i := 92) (by decide +kernel))
theorem mwL_67 : Cond.methodLink R_law 67 yX10_law ∈ wA := wA_sub_9 _ (List.mem_of_getElem? (i := 35) (by decide +kernel))
theorem mwL_68 : Cond.methodLink R_law 68 yX9_years ∈ wA := wA_sub_4 _ (List.mem_of_getElem? (i := 97) (by decide +kernel))
theorem mwL_71 : Cond.methodLink R_law 71 yX10_years ∈ wA := wA_sub_9 _ (List.mem_of_getElem? (i := 39) (by decide +kernel))
theorem mwL_72 : Cond.methodLink R_law 72 yX9_loose ∈ wA := wA_sub_5 _ (List.mem_of_getElem? (i := 29) (by decide +kernel))
theorem mwL_75 : Cond.methodLink R_law 75 yX10_loose ∈ wA := wA_sub_9 _ (List.mem_of_getElem? (i := 53) (by decide +kernel))
theorem mwL_76 : Cond.methodLink R_law 76 yX9_seed ∈ wA := wA_sub_5 _ (List.mem_of_getElem? (i := 44) (by decide +kernel))
theorem mwL_79 : Cond.methodLink R_law 79 yX10_seed ∈ wA := wA_sub_9 _ (List.mem_of_getElem? (i := 61) (by decide +kernel))
theorem mwL_80 : Cond.methodLink R_law 80 yX9_talk ∈ wA := wA_sub_5 _ (List.mem_of_getElem? (i := 48) (by decide +kernel))
theorem mwL_83 : Cond.methodLink R_law 83 yX10_talk ∈ wA := wA_sub_9 _ (List.mem_of_getElem? (i := 65) (by decide +kernel))
theorem mwL_84 : Cond.methodLink R_law 84 yX9_meaning ∈ wA := wA_sub_5 _ (List.mem_of_getElem? (i := 69) (by decide +kernel))
theorem mwL_87 : Cond.methodLink R_law 87 yX10_meaning ∈ wA := wA_sub_9 _ (List.mem_of_getElem? (i := 81) (by decide +kernel))
theorem mwL_88 : Cond.methodLink R_law 88 yX9_then ∈ wA := wA_sub_5 _ (List.mem_of_getElem? (i := 74) (by decide +kernel))
theorem mwL_91 : Cond.methodLink R_law 91 yX10_then ∈ wA := wA_sub_9 _ (List.mem_of_getElem? (i := 85) (by decide +kernel))
theorem mwL_92 : Cond.methodLink R_law 92 yX9_fewest ∈ wA := wA_sub_5 _ (List.mem_of_getElem? (i := 87) (by decide +kernel))
theorem mwL_95 : Cond.methodLink R_law 95 yX10_fewest ∈ wA := wA_sub_9 _ (List.mem_of_getElem? (i := 98) (by decide +kernel))
theorem mwL_96 : Cond.methodLink R_law 96 yX9_reply ∈ wA := wA_sub_6 _ (List.mem_of_getElem? (i := 1) (by decide +kernel))
theorem mwL_99 : Cond.methodLink R_law 99 yX10_reply ∈ wA := wA_sub_10 _ (List.mem_of_getElem? (i := 5) (by decide +kernel))
theorem mwL_100 : Cond.methodLink R_law 100 yX9_odds ∈ wA := wA_sub_6 _ (List.mem_of_getElem? (i := 28) (by decide +kernel))
theorem mwL_103 : Cond.methodLink R_law 103 yX10_odds ∈ wA := wA_sub_10 _ (List.mem_of_getElem? (i := 18) (by decide +kernel))
theorem mwL_104 : Cond.methodLink R_law 104 yX9_fits ∈ wA := wA_sub_6 _ (List.mem_of_getElem? (i := 40) (by decide +kernel))
theorem mwL_107 : Cond.methodLink R_law 107 yX10_fits ∈ wA := wA_sub_10 _ (List.mem_of_getElem? (i := 22) (by decide +kernel))
theorem mwL_108 : Cond.methodLink R_law 108 yX9_voice ∈ wA := wA_sub_6 _ (List.mem_of_getElem? (i := 56) (by decide +kernel))
theorem mwL_111 : Cond.methodLink R_law 111 yX10_voice ∈ wA := wA_sub_10 _ (List.mem_of_getElem? (i := 36) (by decide +kernel))
theorem mwL_112 : Cond.methodLink R_law 112 yX9_body ∈ wA := wA_sub_6 _ (List.mem_of_getElem? (i := 80) (by decide +kernel))
theorem mwL_115 : Cond.methodLink R_law 115 yX10_body ∈ wA := wA_sub_10 _ (List.mem_of_getElem? (i := 74) (by decide +kernel))
theorem mwL_116 : Cond.methodLink R_law 116 yX9_sheet ∈ wA := wA_sub_6 _ (List.mem_of_getElem? (i := 84) (by decide +kernel))
theorem mwL_119 : Cond.methodLink R_law 119 yX10_sheet ∈ wA := wA_sub_10 _ (List.mem_of_getElem? (i := 78) (by decide +kernel))
theorem mwL_120 : Cond.methodLink R_law 120 yX9_put ∈ wA := wA_sub_6 _ (List.mem_of_getElem? (i := 92) (by decide +kernel))
theorem mwL_123 : Cond.methodLink R_law 123 yX10_put ∈ wA := wA_sub_10 _ (List.mem_of_getElem? (i := 82) (by decide +kernel))
theorem mwL_124 : Cond.methodLink R_law 124 yX9_move ∈ wA := wA_sub_7 _ (List.mem_of_getElem? (i := 0) (by decide +kernel))
theorem mwL_128 : Cond.methodLink R_law 128 yX10_move ∈ wA := wA_sub_10 _ (List.mem_of_getElem? (i := 86) (by decide +kernel))
theorem mwL_129 : Cond.methodLink R_law 129 yX9_lines ∈ wA := wA_sub_7 _ (List.mem_of_getElem? (i := 9) (by decide +kernel))
theorem mwL_132 : Cond.methodLink R_law 132 yX10_lines ∈ wA := wA_sub_10 _ (List.mem_of_getElem? (i := 93) (by decide +kernel))
theorem mwL_133 : Cond.methodLink R_law 133 yX9_judge ∈ wA := wA_sub_7 _ (List.mem_of_getElem? (i := 13) (by decide +kernel))
theorem mwL_136 : Cond.methodLink R_law 136 yX10_judge ∈ wA := wA_sub_10 _ (List.mem_of_getElem? (i := 97) (by decide +kernel))
theorem mwL_137 : Cond.methodLink R_law 137 yX9_image ∈ wA := wA_sub_7 _ (List.mem_of_getElem? (i := 17) (by decide +kernel))
theorem mwL_141 : Cond.methodLink R_law 141 yX10_image ∈ wA := wA_sub_11 _ (List.mem_of_getElem? (i := 1) (by decide +kernel))
theorem mwL_142 : Cond.methodLink R_law 142 yX9_restore ∈ wA := wA_sub_7 _ (List.mem_of_getElem? (i := 28) (by decide +kernel))
theorem mwL_145 : Cond.methodLink R_law 145 yX10_restore ∈ wA := wA_sub_11 _ (List.mem_of_getElem? (i := 5) (by decide +kernel))
theorem mwL_146 : Cond.methodLink R_law 146 yX9_tell ∈ wA := wA_sub_7 _ (List.mem_of_getElem? (i := 32) (by decide +kernel))
theorem mwL_149 : Cond.methodLink R_law 149 yX10_tell ∈ wA := wA_sub_11 _ (List.mem_of_getElem? (i := 9) (by decide +kernel))
theorem mwL_150 : Cond.methodLink R_law 150 yX9_check ∈ wA := wA_sub_7 _ (List.mem_of_getElem? (i := 36) (by decide +kernel))
theorem mwL_153 : Cond.methodLink R_law 153 yX10_check ∈ wA := wA_sub_11 _ (List.mem_of_getElem? (i := 13) (by decide +kernel))
theorem mwL_154 : Cond.methodLink R_law 154 yX9_count ∈ wA := wA_sub_7 _ (List.mem_of_getElem? (i := 40) (by decide +kernel))
theorem mwL_157 : Cond.methodLink R_law 157 yX10_count ∈ wA := wA_sub_11 _ (List.mem_of_getElem? (i := 17) (by decide +kernel))
theorem mwL_158 : Cond.methodLink R_law 158 yX9_told ∈ wA := wA_sub_7 _ (List.mem_of_getElem? (i := 44) (by decide +kernel))
theorem mwL_161 : Cond.methodLink R_law 161 yX10_told ∈ wA := wA_sub_11 _ (List.mem_of_getElem? (i := 21) (by decide +kernel))
theorem cwL_48 : Cond.constantLong R_law 48 4294967295 ∈ wA := wA_sub_11 _ (List.mem_of_getElem? (i := 25) (by decide +kernel))
end LK
