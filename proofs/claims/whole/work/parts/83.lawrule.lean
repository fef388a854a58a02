/-! a call whose cells are the first block of the world; what comes back stands behind the rest -/
theorem map_left (wc wr : va_W) : (List.range wc.length).map (fun i => (wc ++ wr)[i]?) = wc.map some := by
  apply List.ext_getElem?
  intro i
  by_cases h : i < wc.length
  · simp [List.getElem?_map, List.getElem?_range, h, List.getElem?_append_left h]
  · have h2 : wc.length ≤ i := Nat.le_of_not_lt h
    simp [List.getElem?_map, h2]
theorem map_right (wc wr : va_W) : ((List.range wr.length).map (fun i => i + wc.length)).map (fun i => (wc ++ wr)[i]?) = wr.map some := by
  apply List.ext_getElem?
  intro i
  by_cases h : i < wr.length
  · have h2 : (wc ++ wr)[i + wc.length]? = wr[i]? := by
      rw [List.getElem?_append_right (Nat.le_add_left _ _), Nat.add_sub_cancel]
    simp [List.getElem?_map, List.getElem?_range, h, h2]
  · have h2 : wr.length ≤ i := Nat.le_of_not_lt h
    simp [List.getElem?_map, h2]
section ZL
variable {p : Program} {l : Launch} {e : Env} {R : Room} {s : State} {m : MethodId} {args : Array Value} {below : List Frame} {meth : Method} {c : Code} {H : Heap} {locs : List Loc} {cells slots : Nat} {Q : State → Prop} {D : va_G} {cI cZ : ClassId} {A : Nat → Prop} {H0 : Heap} {wc wr : va_W} {pc : Nat} {ls : Array Slot} {st rest : List Value}
theorem pv_L {b : Addr} {As : List Value} {fs : List Value} {q : vw_C} (hK : va_K D vwCl (ty2 cI cZ) s) (hN : nst s) (hP : va_P D vwCl (wc ++ wr) H) (hD : va_D A (wc ++ wr)) (isC : List Nat) (hlC : isC = List.range wc.length) (hCn : va_nd isC = true) (ci q0 : Nat) (hc : vwCl[ci]? = some q) (he : wc[q0]? = some (b, .inr (ci, fs))) : PreV s H q.1 b (va_Pc (.ref b :: As) (pcX D cI cZ wc H.size)) As :=
  pv_of hK hN hP hD isC (by rw [hlC]; exact map_left wc wr) hCn ci q0 hc he
theorem zc_L {S : Type} {post : Int32 → S → Prop} {w1 : S → va_W} {a : Array Value} (isC isR : List Nat) (hlC : isC = List.range wc.length) (hlR : isR = (List.range wr.length).map (fun i => i + wc.length)) (ndR : va_nd isR = true) (hdis : ∀ i ∈ isR, i ∉ isC)
    (hr : va_Run p l e R s m args below meth c H locs cells slots 0 0 (F0 m pc ls st) rest (va_Qi post (poX D (va_A wc H.size) w1) (va_A wc H.size) a) (va_A wc H.size))
    (hP : va_P D vwCl (wc ++ wr) H) (hD : va_D A (wc ++ wr)) (hS : va_S A H0 H locs) (hA : ∀ q, H0.size ≤ q → A q)
    (kk : ∀ (r : Int32) (u : S) (H1 : Heap) (locs1 : List Loc), post r u → va_P D vwCl (wr ++ w1 u) H1 → va_D A (wr ++ w1 u) → va_S A H0 H1 locs1 → W p l e R s m args below meth c H1 locs1 cells slots Q (F0 m (pc + 3) ls (.int r :: rest))) :
    W p l e R s m args below meth c H locs cells slots Q (F0 m pc ls st) := by
  have hC : isC.map (fun i => (wc ++ wr)[i]?) = wc.map some := by rw [hlC]; exact map_left wc wr
  have hR : isR.map (fun i => (wc ++ wr)[i]?) = wr.map some := by rw [hlR]; exact map_right wc wr
  have hF := va_free hD hS hA isC hC
  refine va_calli hr hS (fun q _ h => hF q h) hF (fun r u t H1 locs1 ht hvm hw hB1 hz1 hk1 hS1 => ?_)
  obtain ⟨hP1, hD1⟩ := hB1
  rw [ht] at hP1
  obtain ⟨hP2, hD2⟩ := va_join (wr := wr) (w1 := w1 u) hP hD isC isR hC hR ndR hdis hk1 hF hP1 hD1
  exact kk r u H1 locs1 hw hP2 hD2 hS1
end ZL
