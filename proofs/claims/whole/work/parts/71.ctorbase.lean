/-! constructors: new arrays, calls that make cells -/
section ZN
variable {p : Program} {l : Launch} {e : Env} {R : Room} {s : State} {m : MethodId} {args : Array Value} {below : List Frame} {meth : Method} {c : Code} {H : Heap} {locs : List Loc} {cells slots : Nat} {Q : State → Prop} {D : va_G} {cI cZ : ClassId} {A : Nat → Prop} {H0 : Heap} {w wc : va_W} {pc : Nat} {ls : Array Slot} {st rest : List Value} {cc : ByteArray}
theorem zn_i (hx : p.tables.exec = Jvm.exec) (hb : c.code = cc) (harr : (Cond.arrayClass .int).before args s = true) (hK : va_K D vwCl (ty2 cI cZ) s) (hP : va_P D vwCl w H) (hD : va_D A w) (hS : va_S A H0 H locs) (hA : ∀ q, H0.size ≤ q → A q) {n : Int32} {N : Nat} (hn : ¬ n < 0) (hN : n.toNatClampNeg = N) (hbytes : N * componentBytes .int ≤ 536870912) (hcells : cells + 1 ≤ R.cells) (hslots : slots + N ≤ R.slots) (hdg : decode cc pc = .ok (.newarray .int, 2))
    (kk : ∀ (q : Nat) (H1 : Heap), va_P D vwCl (w ++ [(q, .inl (cI, N, .inl (fun _ => 0)))]) H1 → va_D A (w ++ [(q, .inl (cI, N, .inl (fun _ => 0)))]) → va_S A H0 H1 locs → W p l e R s m args below meth c H1 locs (cells + 1) (slots + N) Q (F0 m (pc + 2) ls (.ref q :: rest))) : W p l e R s m args below meth c H locs cells slots Q (F0 m pc ls (.int n :: rest)) := by
  refine va_newa (atype := .int) (ty := .int) hx hb harr rfl hK hP hD hS hA (a0 := (N, .inl (fun _ => 0))) (fun _ => rfl) hn hN hbytes hcells hslots hdg (fun q cA H1 hK1 hP1 hD1 hS1 => ?_)
  have e1 : cA = cI := Option.some.inj ((va_nm_int (hK1.2 2 (cA, .int) rfl).2).symm.trans (va_nm_int (hK.2 0 (cI, .int) rfl).2))
  rw [e1] at hP1 hD1
  exact kk q H1 hP1 hD1 hS1
theorem zn_z (hx : p.tables.exec = Jvm.exec) (hb : c.code = cc) (harr : (Cond.arrayClass .boolean).before args s = true) (hK : va_K D vwCl (ty2 cI cZ) s) (hP : va_P D vwCl w H) (hD : va_D A w) (hS : va_S A H0 H locs) (hA : ∀ q, H0.size ≤ q → A q) {n : Int32} {N : Nat} (hn : ¬ n < 0) (hN : n.toNatClampNeg = N) (hbytes : N * componentBytes .boolean ≤ 536870912) (hcells : cells + 1 ≤ R.cells) (hslots : slots + N ≤ R.slots) (hdg : decode cc pc = .ok (.newarray .boolean, 2))
    (kk : ∀ (q : Nat) (H1 : Heap), va_P D vwCl (w ++ [(q, .inl (cZ, N, .inl (fun _ => 0)))]) H1 → va_D A (w ++ [(q, .inl (cZ, N, .inl (fun _ => 0)))]) → va_S A H0 H1 locs → W p l e R s m args below meth c H1 locs (cells + 1) (slots + N) Q (F0 m (pc + 2) ls (.ref q :: rest))) : W p l e R s m args below meth c H locs cells slots Q (F0 m pc ls (.int n :: rest)) := by
  refine va_newa (atype := .boolean) (ty := .boolean) hx hb harr rfl hK hP hD hS hA (a0 := (N, .inl (fun _ => 0))) (fun _ => rfl) hn hN hbytes hcells hslots hdg (fun q cA H1 hK1 hP1 hD1 hS1 => ?_)
  have e1 : cA = cZ := Option.some.inj ((va_nm_boolean (hK1.2 2 (cA, .boolean) rfl).2).symm.trans (va_nm_boolean (hK.2 1 (cZ, .boolean) rfl).2))
  rw [e1] at hP1 hD1
  exact kk q H1 hP1 hD1 hS1
theorem zc_n {S : Type} {post : S → Prop} {w1 : S → va_W} (w2 : S → va_W) {a : Array Value} {mc ms : Nat} (isC isR isB : List Nat)
    (hr : va_Run p l e R s m args below meth c H locs cells slots mc ms (F0 m pc ls st) rest (va_Qv post (poX D (va_A wc H.size) w1) (va_A wc H.size) a) (va_A wc H.size))
    (hP : va_P D vwCl w H) (hD : va_D A w) (hS : va_S A H0 H locs) (hA : ∀ q, H0.size ≤ q → A q)
    (hC : isC.map (fun i => w[i]?) = wc.map some) (hR : isR.map (fun i => w[i]?) = (isR.filterMap (fun i => w[i]?)).map some) (hn : va_nd isR = true) (hdis : ∀ i ∈ isR, i ∉ isC)
    (hB : ∀ u, isB.map (fun i => (isR.filterMap (fun i => w[i]?) ++ w1 u)[i]?) = (w2 u).map some) (hBn : va_nd isB = true)
    (kk : ∀ (u : S) (H1 : Heap) (locs1 : List Loc), post u → va_P D vwCl (w2 u) H1 → va_D A (w2 u) → va_S A H0 H1 locs1 → W p l e R s m args below meth c H1 locs1 (cells + mc) (slots + ms) Q (F0 m (pc + 3) ls rest)) :
    W p l e R s m args below meth c H locs cells slots Q (F0 m pc ls st) := by
  have hF := va_free hD hS hA isC hC
  refine va_callv hr hS (fun q _ h => hF q h) hF (fun u t H1 locs1 ht hvm hw hB1 hz1 hk1 hS1 => ?_)
  obtain ⟨hP1, hD1⟩ := hB1
  rw [ht] at hP1
  obtain ⟨hP2, hD2⟩ := va_join (wr := isR.filterMap (fun i => w[i]?)) (w1 := w1 u) hP hD isC isR hC hR hn hdis hk1 hF hP1 hD1
  exact kk u H1 locs1 hw (hP2.sub isB (fm_of (hB u))) (hD2.sub isB hBn (hB u)) hS1
end ZN
def MN {S : Type} (mc ms : Nat) (l : Launch) (y : MethodName) (ws : List Cond) (rm : Room) (D : va_G) (cI cZ : ClassId) (av : List Value) (w0 : va_W) (w1 : S → va_W) (post : S → Prop) : Prop :=
  ∀ sz, Met l y ws rm (va_Pc av (pcX D cI cZ w0 sz)) (va_Qv post (poX D (va_A w0 sz) w1) (va_A w0 sz)) mc ms (va_A w0 sz)
theorem MN_of {S : Type} {mc ms : Nat} {l : Launch} {y : MethodName} {ws ws' : List Cond} {rm : Room} {D : va_G} {cI cZ : ClassId} {av : List Value} {w0 : va_W} {w1 : S → va_W} {post : S → Prop} {cc : ByteArray} {maxL : Nat} (hy : plainName y.cls = true) (hyn : y.name = "<init>") (hw : ws = Cond.code y cc maxL none :: ws') (hav : (lg_sl av).length ≤ maxL)
    (body : ∀ (p : Program) (e : Env) (s : State) (m : MethodId) (args : Array Value) (below : List Frame) (meth : Method) (c : Code) (A : Nat → Prop) (Q : State → Prop), p.tables.exec = Jvm.exec → c.code = cc → c.maxLocals = maxL → s.vm.findClass y.cls = some m.cls → meth.name = "<init>" → (∀ w ∈ ws, w.before args s = true) → va_K D vwCl (ty2 cI cZ) s → nst s → (∀ q, s.heap.size ≤ q → A q) →
      (∀ (u : S) (H : Heap) (locs : List Loc) (pc : Nat) (ls : Array Slot), post u → va_P D vwCl (w1 u) H → va_D A (w1 u) → va_S A s.heap H locs → decode cc pc = .ok (.return_, 1) → W p l e (headSpec ws rm).room s m args below meth c H locs mc ms Q (F0 m pc ls [])) →
      ∀ (H : Heap) (locs : List Loc) (ls : Array Slot), lv_has ls maxL (lv_args 0 av) → va_P D vwCl w0 H → va_D A w0 → va_S A s.heap H locs → W p l e (headSpec ws rm).room s m args below meth c H locs 0 0 Q (F0 m 0 ls [])) : MN mc ms l y ws rm D cI cZ av w0 w1 post := by
  intro sz
  refine Met.ofW (cc := cc) (maxL := maxL) (ret := none) hy hw ?_
  intro p e s m args below meth c s₁ B hml hv
  obtain ⟨rfl, hsz, hP, hK, hD0, hN⟩ := hv
  have hx := B.exec
  have hb := B.bytes
  have hr := B.returns
  have hts := atoms_spec (ws := ws) B.pre
  have hown : s.vm.findClass y.cls = some m.cls := findClass_of_methodNamed B.named
  have hlocks := B.notSynchronized
  have hin : meth.name = "<init>" := (name_of_methodNamed B.named B.method).1.trans hyn
  subst hsz
  have hD := hD0.self (sz := s.heap.size)
  rw [lg_entry_eq]
  refine body p e s m _ below meth c (va_A w0 s.heap.size) _ hx hb hml hown hin hts hK hN (fun q h => Or.inr h) ?_ _ _ _ (lv_entry av hav) hP hD va_S.rf
  intro u H locs pc ls hp hP1 hD1 hS1 hdg
  exact W.vret hx hb hr (fun t ht hW => ⟨⟨u, rfl, hp, by rw [ht]; exact hP1, hD1⟩, hS1.F ht⟩) hS1.2.2 hdg
abbrev z0 : Nat → Int32 := fun _ => 0
