/-! the base: worlds' classes, nest words, contracts in one form, calls in one form -/
abbrev ty2 (cI cZ : ClassId) : List (ClassId × FieldType) := [(cI, .int), (cZ, .boolean)]
def nwl : List Cond := [.methodLinkNest "GlassBooths" 9 ⟨"GlassBooths$People", "<init>", "()V"⟩ "GlassBooths",
  .fieldLinkNest "GlassBooths$Search" 66 "GlassBooths$People" "size" "I" "GlassBooths",
  .fieldLinkNest "GlassBooths$Day" 69 "GlassBooths$People" "size" "I" "GlassBooths",
  .fieldLinkNest "GlassBooths" 148 "GlassBooths$People" "size" "I" "GlassBooths",
  .fieldLinkNest "GlassBooths" 151 "GlassBooths$People" "illBits" "I" "GlassBooths",
  .fieldLinkNest "GlassBooths" 80 "GlassBooths$Search" "cheapestTeam" "[I" "GlassBooths",
  .fieldLinkNest "GlassBooths" 87 "GlassBooths$Search" "nearestTeam" "[I" "GlassBooths",
  .fieldLinkNest "GlassBooths" 71 "GlassBooths$Search" "found" "I" "GlassBooths",
  .fieldLinkNest "GlassBooths" 111 "GlassBooths$Search" "sparedBits" "I" "GlassBooths",
  .fieldLinkNest "GlassBooths" 74 "GlassBooths$Search" "leastPay" "I" "GlassBooths",
  .fieldLinkNest "GlassBooths" 77 "GlassBooths$Search" "fewestMoved" "I" "GlassBooths",
  .fieldLinkNest "GlassBooths" 90 "GlassBooths$Search" "payOfNearest" "I" "GlassBooths",
  .fieldLinkNest "GlassBooths" 139 "GlassBooths$Day" "tiredness" "[I" "GlassBooths",
  .fieldLinkNest "GlassBooths" 133 "GlassBooths$Day" "onIn" "[I" "GlassBooths",
  .fieldLinkNest "GlassBooths" 136 "GlassBooths$Day" "heardBy" "[I" "GlassBooths",
  .methodLinkNest "GlassBooths$People" 31 ⟨"GlassBooths", "holds", "(II)Z"⟩ "GlassBooths",
  .methodLinkNest "GlassBooths$Search" 62 ⟨"GlassBooths", "holds", "(II)Z"⟩ "GlassBooths",
  .methodLinkNest "GlassBooths" 165 ⟨"GlassBooths$Search", "placeFrom", "(I)V"⟩ "GlassBooths",
  .methodLinkNest "GlassBooths$Search" 98 ⟨"GlassBooths", "isTongue", "(I)Z"⟩ "GlassBooths",
  .methodLinkNest "GlassBooths$Day" 37 ⟨"GlassBooths", "isHalf", "(I)Z"⟩ "GlassBooths",
  .methodLinkNest "GlassBooths$Day" 78 ⟨"GlassBooths", "isTongue", "(I)Z"⟩ "GlassBooths",
  .methodLinkNest "GlassBooths$Day" 91 ⟨"GlassBooths", "holds", "(II)Z"⟩ "GlassBooths"]
def nst (U : State) : Prop := ∀ w ∈ nwl, va_Nw w U
theorem nwl_warm : ∀ w ∈ nwl, ∀ s U : State, s.WarmedH U.vm → va_Nw w s → va_Nw w U := by
  intro w hw s U hW h1
  simp only [nwl, List.mem_cons, List.not_mem_nil, or_false] at hw
  rcases hw with rfl | rfl | rfl | rfl | rfl | rfl | rfl | rfl | rfl | rfl | rfl | rfl | rfl | rfl | rfl | rfl | rfl | rfl | rfl | rfl | rfl | rfl
  all_goals first | exact va_Nw.warmF hW h1 | exact va_Nw.warmM hW h1
theorem nst.warm {s U : State} (hW : s.WarmedH U.vm) (h : nst s) : nst U := fun w hw => nwl_warm w hw s U hW (h w hw)
theorem nwl_tab : ∀ w ∈ nwl, w.onTables = true := by
  intro w hw
  simp only [nwl, List.mem_cons, List.not_mem_nil, or_false] at hw
  rcases hw with rfl | rfl | rfl | rfl | rfl | rfl | rfl | rfl | rfl | rfl | rfl | rfl | rfl | rfl | rfl | rfl | rfl | rfl | rfl | rfl | rfl | rfl
  all_goals rfl
theorem nst.same {u U : State} (h : u.vm = U.vm) (hn : nst u) : nst U := fun w hw => va_Nw.same (nwl_tab w hw) h (hn w hw)
theorem nst.of {A : Array Value} {U : State} (h : ∀ w ∈ nwl, w.before A U = true) : nst U := fun w hw => va_Nw.of (nwl_tab w hw) (h w hw)
/-- a contract's start: the size of the heap, the world, what the tables say -/
def pcX (D : va_G) (cI cZ : ClassId) (w : va_W) (sz : Nat) : State → Prop := fun U => U.heap.size = sz ∧ va_P D vwCl w U.heap ∧ va_K D vwCl (ty2 cI cZ) U ∧ va_D (fun _ => True) w ∧ nst U
/-- a contract's end: the world -/
def poX {S : Type} (D : va_G) (A : Nat → Prop) (w1 : S → va_W) : S → State → Prop := fun u t => va_P D vwCl (w1 u) t.heap ∧ va_D A (w1 u)
def MI {S : Type} (l : Launch) (y : MethodName) (ws : List Cond) (rm : Room) (D : va_G) (cI cZ : ClassId) (av : List Value) (w0 : va_W) (w1 : S → va_W) (post : Int32 → S → Prop) : Prop :=
  ∀ sz, Met l y ws rm (va_Pc av (pcX D cI cZ w0 sz)) (va_Qi post (poX D (va_A w0 sz) w1) (va_A w0 sz)) 0 0 (va_A w0 sz)
def MV {S : Type} (l : Launch) (y : MethodName) (ws : List Cond) (rm : Room) (D : va_G) (cI cZ : ClassId) (av : List Value) (w0 : va_W) (w1 : S → va_W) (post : S → Prop) : Prop :=
  ∀ sz, Met l y ws rm (va_Pc av (pcX D cI cZ w0 sz)) (va_Qv post (poX D (va_A w0 sz) w1) (va_A w0 sz)) 0 0 (va_A w0 sz)
theorem fb_pc {D : va_G} {cI cZ : ClassId} {w : va_W} {sz : Nat} {av : List Value} : FrameBlind (va_Pc av (pcX D cI cZ w sz)) := fun a U g mk q => by
  obtain ⟨q0, q1, qP, qK, qD, qN⟩ := q
  exact ⟨q0, q1, qP, va_K.moved (u := U) (U := U.calling g mk a) (Vm.Alike.refl U.vm) qK, qD, nst.same (u := U) rfl qN⟩
theorem fm_of {α : Type} {is : List Nat} {f : Nat → Option α} {l : List α} (h : is.map f = l.map some) : is.filterMap f = l := by
  have e : is.filterMap f = (is.map f).filterMap id := by rw [List.filterMap_map]; rfl
  rw [e, h, List.filterMap_map]
  exact List.filterMap_some
section ZB
variable {p : Program} {l : Launch} {e : Env} {R : Room} {s : State} {m : MethodId} {args : Array Value} {below : List Frame} {meth : Method} {c : Code} {H : Heap} {locs : List Loc} {cells slots : Nat} {Q : State → Prop} {D : va_G} {cI cZ : ClassId} {A : Nat → Prop} {H0 : Heap} {w wc : va_W} {pc : Nat} {ls : Array Slot} {st rest : List Value}
theorem pv_of {b : Addr} {As : List Value} {fs : List Value} {q : vw_C} (hK : va_K D vwCl (ty2 cI cZ) s) (hN : nst s) (hP : va_P D vwCl w H) (hD : va_D A w) (isC : List Nat) (hC : isC.map (fun i => w[i]?) = wc.map some) (hCn : va_nd isC = true) (ci q0 : Nat) (hc : vwCl[ci]? = some q) (he : wc[q0]? = some (b, .inr (ci, fs))) : PreV s H q.1 b (va_Pc (.ref b :: As) (pcX D cI cZ wc H.size)) As :=
  ⟨fb_pc, va_recv hK (hP.sub isC (fm_of hC)) hc he, fun U hU hW => ⟨rfl, by rw [hU], by rw [hU]; exact hP.sub isC (fm_of hC), va_K.moved hW.alike hK, (hD.sub isC hCn hC).weaken (fun _ _ _ _ => trivial), hN.warm hW⟩⟩
theorem ps_of {As : List Value} (hK : va_K D vwCl (ty2 cI cZ) s) (hN : nst s) (hP : va_P D vwCl w H) (hD : va_D A w) (isC : List Nat) (hC : isC.map (fun i => w[i]?) = wc.map some) (hCn : va_nd isC = true) : PreS s H (va_Pc As (pcX D cI cZ wc H.size)) As :=
  ⟨fb_pc, fun U hU hW => ⟨rfl, by rw [hU], by rw [hU]; exact hP.sub isC (fm_of hC), va_K.moved hW.alike hK, (hD.sub isC hCn hC).weaken (fun _ _ _ _ => trivial), hN.warm hW⟩⟩
theorem zc_i {S : Type} {post : Int32 → S → Prop} {w1 : S → va_W} (w2 : S → va_W) {a : Array Value} (isC isR isB : List Nat)
    (hr : va_Run p l e R s m args below meth c H locs cells slots 0 0 (F0 m pc ls st) rest (va_Qi post (poX D (va_A wc H.size) w1) (va_A wc H.size) a) (va_A wc H.size))
    (hP : va_P D vwCl w H) (hD : va_D A w) (hS : va_S A H0 H locs) (hA : ∀ q, H0.size ≤ q → A q)
    (hC : isC.map (fun i => w[i]?) = wc.map some) (hR : isR.map (fun i => w[i]?) = (isR.filterMap (fun i => w[i]?)).map some) (hn : va_nd isR = true) (hdis : ∀ i ∈ isR, i ∉ isC)
    (hB : ∀ u, isB.map (fun i => (isR.filterMap (fun i => w[i]?) ++ w1 u)[i]?) = (w2 u).map some) (hBn : va_nd isB = true)
    (kk : ∀ (r : Int32) (u : S) (H1 : Heap) (locs1 : List Loc), post r u → va_P D vwCl (w2 u) H1 → va_D A (w2 u) → va_S A H0 H1 locs1 → W p l e R s m args below meth c H1 locs1 cells slots Q (F0 m (pc + 3) ls (.int r :: rest))) :
    W p l e R s m args below meth c H locs cells slots Q (F0 m pc ls st) := by
  have hF := va_free hD hS hA isC hC
  refine va_calli hr hS (fun q _ h => hF q h) hF (fun r u t H1 locs1 ht hvm hw hB1 hz1 hk1 hS1 => ?_)
  obtain ⟨hP1, hD1⟩ := hB1
  rw [ht] at hP1
  obtain ⟨hP2, hD2⟩ := va_join (wr := isR.filterMap (fun i => w[i]?)) (w1 := w1 u) hP hD isC isR hC hR hn hdis hk1 hF hP1 hD1
  exact kk r u H1 locs1 hw (hP2.sub isB (fm_of (hB u))) (hD2.sub isB hBn (hB u)) hS1
theorem zc_v {S : Type} {post : S → Prop} {w1 : S → va_W} (w2 : S → va_W) {a : Array Value} (isC isR isB : List Nat)
    (hr : va_Run p l e R s m args below meth c H locs cells slots 0 0 (F0 m pc ls st) rest (va_Qv post (poX D (va_A wc H.size) w1) (va_A wc H.size) a) (va_A wc H.size))
    (hP : va_P D vwCl w H) (hD : va_D A w) (hS : va_S A H0 H locs) (hA : ∀ q, H0.size ≤ q → A q)
    (hC : isC.map (fun i => w[i]?) = wc.map some) (hR : isR.map (fun i => w[i]?) = (isR.filterMap (fun i => w[i]?)).map some) (hn : va_nd isR = true) (hdis : ∀ i ∈ isR, i ∉ isC)
    (hB : ∀ u, isB.map (fun i => (isR.filterMap (fun i => w[i]?) ++ w1 u)[i]?) = (w2 u).map some) (hBn : va_nd isB = true)
    (kk : ∀ (u : S) (H1 : Heap) (locs1 : List Loc), post u → va_P D vwCl (w2 u) H1 → va_D A (w2 u) → va_S A H0 H1 locs1 → W p l e R s m args below meth c H1 locs1 cells slots Q (F0 m (pc + 3) ls rest)) :
    W p l e R s m args below meth c H locs cells slots Q (F0 m pc ls st) := by
  have hF := va_free hD hS hA isC hC
  refine va_callv hr hS (fun q _ h => hF q h) hF (fun u t H1 locs1 ht hvm hw hB1 hz1 hk1 hS1 => ?_)
  obtain ⟨hP1, hD1⟩ := hB1
  rw [ht] at hP1
  obtain ⟨hP2, hD2⟩ := va_join (wr := isR.filterMap (fun i => w[i]?)) (w1 := w1 u) hP hD isC isR hC hR hn hdis hk1 hF hP1 hD1
  exact kk u H1 locs1 hw (hP2.sub isB (fm_of (hB u))) (hD2.sub isB hBn (hB u)) hS1
end ZB
/-- a contract out of a walk; the walk may take its end as given -/
theorem MI_of {S : Type} {l : Launch} {y : MethodName} {ws ws' : List Cond} {rm : Room} {D : va_G} {cI cZ : ClassId} {av : List Value} {w0 : va_W} {w1 : S → va_W} {post : Int32 → S → Prop} {cc : ByteArray} {maxL : Nat} {ty : FieldType} (hy : plainName y.cls = true) (hw : ws = Cond.code y cc maxL (some ty) :: ws') (hav : (lg_sl av).length ≤ maxL)
    (body : ∀ (p : Program) (e : Env) (s : State) (m : MethodId) (args : Array Value) (below : List Frame) (meth : Method) (c : Code) (A : Nat → Prop) (Q : State → Prop), p.tables.exec = Jvm.exec → c.code = cc → c.maxLocals = maxL → s.vm.findClass y.cls = some m.cls → (∀ w ∈ ws, w.before args s = true) → va_K D vwCl (ty2 cI cZ) s → nst s → (∀ q, s.heap.size ≤ q → A q) →
      (∀ (v : Int32) (u : S) (H : Heap) (locs : List Loc) (pc : Nat) (ls : Array Slot), post v u → narrow ty (.int v) = .int v → va_P D vwCl (w1 u) H → va_D A (w1 u) → va_S A s.heap H locs → decode cc pc = .ok (.ireturn, 1) → W p l e (headSpec ws rm).room s m args below meth c H locs 0 0 Q (F0 m pc ls [.int v])) →
      ∀ (H : Heap) (locs : List Loc) (ls : Array Slot), lv_has ls maxL (lv_args 0 av) → va_P D vwCl w0 H → va_D A w0 → va_S A s.heap H locs → W p l e (headSpec ws rm).room s m args below meth c H locs 0 0 Q (F0 m 0 ls [])) : MI l y ws rm D cI cZ av w0 w1 post := by
  intro sz
  refine Met.ofW (cc := cc) (maxL := maxL) (ret := some ty) hy hw ?_
  intro p e s m args below meth c s₁ B hml hv
  obtain ⟨rfl, hsz, hP, hK, hD0, hN⟩ := hv
  have hx := B.exec
  have hb := B.bytes
  have hr := B.returns
  have hts := atoms_spec (ws := ws) B.pre
  have hown : s.vm.findClass y.cls = some m.cls := findClass_of_methodNamed B.named
  have hlocks := B.notSynchronized
  subst hsz
  have hD := hD0.self (sz := s.heap.size)
  rw [lg_entry_eq]
  refine body p e s m _ below meth c (va_A w0 s.heap.size) _ hx hb hml hown hts hK hN (fun q h => Or.inr h) ?_ _ _ _ (lv_entry av hav) hP hD va_S.rf
  intro v u H locs pc ls hp hn hP1 hD1 hS1 hdg
  exact W.zret (v := v) hx hb hr hn (fun t ht hW => ⟨⟨v, u, rfl, hp, by rw [ht]; exact hP1, hD1⟩, hS1.F ht⟩) hS1.2.2 hdg
theorem MV_of {S : Type} {l : Launch} {y : MethodName} {ws ws' : List Cond} {rm : Room} {D : va_G} {cI cZ : ClassId} {av : List Value} {w0 : va_W} {w1 : S → va_W} {post : S → Prop} {cc : ByteArray} {maxL : Nat} (hy : plainName y.cls = true) (hw : ws = Cond.code y cc maxL none :: ws') (hav : (lg_sl av).length ≤ maxL)
    (body : ∀ (p : Program) (e : Env) (s : State) (m : MethodId) (args : Array Value) (below : List Frame) (meth : Method) (c : Code) (A : Nat → Prop) (Q : State → Prop), p.tables.exec = Jvm.exec → c.code = cc → c.maxLocals = maxL → s.vm.findClass y.cls = some m.cls → (∀ w ∈ ws, w.before args s = true) → va_K D vwCl (ty2 cI cZ) s → nst s → (∀ q, s.heap.size ≤ q → A q) →
      (∀ (u : S) (H : Heap) (locs : List Loc) (pc : Nat) (ls : Array Slot), post u → va_P D vwCl (w1 u) H → va_D A (w1 u) → va_S A s.heap H locs → decode cc pc = .ok (.return_, 1) → W p l e (headSpec ws rm).room s m args below meth c H locs 0 0 Q (F0 m pc ls [])) →
      ∀ (H : Heap) (locs : List Loc) (ls : Array Slot), lv_has ls maxL (lv_args 0 av) → va_P D vwCl w0 H → va_D A w0 → va_S A s.heap H locs → W p l e (headSpec ws rm).room s m args below meth c H locs 0 0 Q (F0 m 0 ls [])) : MV l y ws rm D cI cZ av w0 w1 post := by
  intro sz
  refine Met.ofW (cc := cc) (maxL := maxL) (ret := none) hy hw ?_
  intro p e s m args below meth c s₁ B hml hv
  obtain ⟨rfl, hsz, hP, hK, hD0, hN⟩ := hv
  have hx := B.exec
  have hb := B.bytes
  have hr := B.returns
  have hts := atoms_spec (ws := ws) B.pre
  have hown : s.vm.findClass y.cls = some m.cls := findClass_of_methodNamed B.named
  have hlocks := B.notSynchronized
  subst hsz
  have hD := hD0.self (sz := s.heap.size)
  rw [lg_entry_eq]
  refine body p e s m _ below meth c (va_A w0 s.heap.size) _ hx hb hml hown hts hK hN (fun q h => Or.inr h) ?_ _ _ _ (lv_entry av hav) hP hD va_S.rf
  intro u H locs pc ls hp hP1 hD1 hS1 hdg
  exact W.vret hx hb hr (fun t ht hW => ⟨⟨u, rfl, hp, by rw [ht]; exact hP1, hD1⟩, hS1.F ht⟩) hS1.2.2 hdg
/-! worlds: the people's, the search's, the day's, the class's own, the reference's; q: their addresses -/
abbrev wP (cI : ClassId) (q : Nat → Nat) (n il : Int32) (kn sp py bo : Nat → Int32) : va_W := [(q 0, .inr (1, [.ref (q 1), .ref (q 2), .ref (q 3), .ref (q 4), .int n, .int il])), (q 1, .inl (cI, 6, .inl kn)), (q 2, .inl (cI, 6, .inl sp)), (q 3, .inl (cI, 6, .inl py)), (q 4, .inl (cI, 6, .inl bo))]
abbrev wS (cI : ClassId) (q : Nat → Nat) (os fl wa fo sb lp fm pn : Int32) (tr fs sk ct nt : Nat → Int32) : va_W := [(q 5, .inr (2, [.ref (q 0), .ref (q 6), .ref (q 7), .ref (q 8), .ref (q 9), .ref (q 10), .int os, .int fl, .int wa, .int fo, .int sb, .int lp, .int fm, .int pn])), (q 6, .inl (cI, 6, .inl tr)), (q 7, .inl (cI, 5, .inl fs)), (q 8, .inl (cI, 5, .inl sk)), (q 9, .inl (cI, 6, .inl ct)), (q 10, .inl (cI, 6, .inl nt))]
abbrev wD (cI : ClassId) (q : Nat → Nat) (so sd ti on he : Nat → Int32) : va_W := [(q 11, .inr (0, [.ref (q 0), .ref (q 12), .ref (q 13), .ref (q 14), .ref (q 15), .ref (q 16)])), (q 12, .inl (cI, 16, .inl so)), (q 13, .inl (cI, 16, .inl sd)), (q 14, .inl (cI, 6, .inl ti)), (q 15, .inl (cI, 5, .inl on)), (q 16, .inl (cI, 5, .inl he))]
abbrev wM (cI : ClassId) (q : Nat → Nat) (se wo : Int32) (fO wI : Nat → Int32) : va_W := [(q 17, .inr (3, [.ref (q 0), .ref (q 5), .ref (q 11), .ref (q 18), .ref (q 19), .int se, .int wo])), (q 18, .inl (cI, 2, .inl fO)), (q 19, .inl (cI, 2, .inl wI))]
abbrev wR (cI cZ : ClassId) (q : Nat → Nat) (n se li wm ch ne np al wo : Int32) (kn sp py il fl wa bo so sd ro cp nr ti on he la : Nat → Int32) : va_W := [(q 0, .inr (4, [.int n, .ref (q 1), .ref (q 2), .ref (q 3), .ref (q 4), .ref (q 5), .ref (q 6), .int se, .ref (q 7), .ref (q 8), .ref (q 9), .int li, .ref (q 10), .int wm, .int ch, .ref (q 11), .int ne, .int np, .ref (q 12), .int al, .ref (q 13), .ref (q 14), .ref (q 15), .int wo, .ref (q 16)])), (q 1, .inl (cI, 6, .inl kn)), (q 2, .inl (cI, 6, .inl sp)), (q 3, .inl (cI, 6, .inl py)), (q 4, .inl (cZ, 6, .inl il)), (q 5, .inl (cI, 2, .inl fl)), (q 6, .inl (cI, 2, .inl wa)), (q 7, .inl (cI, 6, .inl bo)), (q 8, .inl (cI, 16, .inl so)), (q 9, .inl (cI, 16, .inl sd)), (q 10, .inl (cI, 6, .inl ro)), (q 11, .inl (cI, 6, .inl cp)), (q 12, .inl (cI, 6, .inl nr)), (q 13, .inl (cI, 6, .inl ti)), (q 14, .inl (cI, 5, .inl on)), (q 15, .inl (cI, 5, .inl he)), (q 16, .inl (cI, 5, .inl la))]
