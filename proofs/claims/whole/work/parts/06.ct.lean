section CT
/-- words of the tables that a word list cannot carry: the abstract methods, the nest's private constructor, the machines as Machine, its arrays -/
def ct_F1 (U : State) : Prop := va_Nw (.declares ⟨"BitStreams$Machine", "takes", "(II)Z"⟩) U ∧ va_Nw (.declares ⟨"BitStreams$Machine", "load", "(LBitStreams$Bytes;LBitStreams$Bytes;)V"⟩) U ∧ va_Nw (.declares ⟨"BitStreams$Machine", "nextBit", "()I"⟩) U
def ct_F2 (U : State) : Prop := va_Nw (.methodLinkNest RX4 1 yX3_init "BitStreams") U ∧ va_Nw (.methodLinkNest RX6 1 yX3_init "BitStreams") U ∧ va_Nw (.methodLinkNest RX5 1 yX3_init "BitStreams") U ∧ va_Nw (.methodLinkNest RX2 5 yX3_init "BitStreams") U
def ct_F3 (U : State) : Prop := va_Nw (.castable RX4 "BitStreams$Machine") U ∧ va_Nw (.castable RX6 "BitStreams$Machine") U ∧ va_Nw (.castable RX5 "BitStreams$Machine") U ∧ va_Nw (.castable RX2 "BitStreams$Machine") U ∧ va_AO "BitStreams$Machine" U
def ct_F (U : State) : Prop := ct_F1 U ∧ ct_F2 U ∧ ct_F3 U
theorem ct_F.same {u U : State} (h : u.vm = U.vm) (f : ct_F u) : ct_F U := by
  obtain ⟨⟨a1, a2, a3⟩, ⟨b1, b2, b3, b4⟩, c1, c2, c3, c4, c5⟩ := f
  exact ⟨⟨va_Nw.same rfl h a1, va_Nw.same rfl h a2, va_Nw.same rfl h a3⟩, ⟨va_Nw.same rfl h b1, va_Nw.same rfl h b2, va_Nw.same rfl h b3, va_Nw.same rfl h b4⟩, va_Nw.same rfl h c1, va_Nw.same rfl h c2, va_Nw.same rfl h c3, va_Nw.same rfl h c4, va_AO.moved (h ▸ Vm.Alike.refl u.vm) c5⟩
theorem ct_F.warm {s U : State} (hW : s.WarmedH U.vm) (f : ct_F s) : ct_F U := by
  obtain ⟨⟨a1, a2, a3⟩, ⟨b1, b2, b3, b4⟩, c1, c2, c3, c4, c5⟩ := f
  exact ⟨⟨va_Nw.warmD hW a1, va_Nw.warmD hW a2, va_Nw.warmD hW a3⟩, ⟨va_Nw.warmM hW b1, va_Nw.warmM hW b2, va_Nw.warmM hW b3, va_Nw.warmM hW b4⟩, va_Nw.warmC hW c1, va_Nw.warmC hW c2, va_Nw.warmC hW c3, va_Nw.warmC hW c4, va_AO.moved hW.alike c5⟩
/-- where a contract begins: the heap's size, the cells, the classes, apart -/
def ct_B (D : va_G) (tys : List (ClassId × FieldType)) (wB : va_W) (sz : Nat) (U : State) : Prop := U.heap.size = sz ∧ va_P D vwCl wB U.heap ∧ va_K D vwCl tys U ∧ va_D (fun _ => True) wB ∧ ct_F U
/-- where it ends -/
def ct_E (D : va_G) (tys : List (ClassId × FieldType)) (wA : va_W) (A : Nat → Prop) (t : State) : Prop := va_P D vwCl wA t.heap ∧ va_K D vwCl tys t ∧ va_D A wA
abbrev ct_Qi (D : va_G) (tys : List (ClassId × FieldType)) (wA : va_W) (r : Int32) (A : Nat → Prop) : Array Value → State → Outcome → State → Prop := va_Qi (fun r' (_ : Unit) => r' = r) (fun _ => ct_E D tys wA A) A
abbrev ct_Ql (D : va_G) (tys : List (ClassId × FieldType)) (wA : va_W) (r : Int64) (A : Nat → Prop) : Array Value → State → Outcome → State → Prop := va_Ql (fun r' (_ : Unit) => r' = r) (fun _ => ct_E D tys wA A) A
abbrev ct_Qv (D : va_G) (tys : List (ClassId × FieldType)) (wA : va_W) (A : Nat → Prop) : Array Value → State → Outcome → State → Prop := va_Qv (fun (_ : Unit) => True) (fun _ => ct_E D tys wA A) A
/-- a method that answers the int r and turns the cells wB into wA; nothing new -/
def Cti (l : Launch) (D : va_G) (y : MethodName) (ws : List Cond) (rm : Room) (av : List Value) (tys : List (ClassId × FieldType)) (wB wA : va_W) (r : Int32) : Prop := ∀ sz : Nat, Met l y ws rm (va_Pc av (ct_B D tys wB sz)) (ct_Qi D tys wA r (va_A wB sz)) 0 0 (va_A wB sz)
def Ctl (l : Launch) (D : va_G) (y : MethodName) (ws : List Cond) (rm : Room) (av : List Value) (tys : List (ClassId × FieldType)) (wB wA : va_W) (r : Int64) : Prop := ∀ sz : Nat, Met l y ws rm (va_Pc av (ct_B D tys wB sz)) (ct_Ql D tys wA r (va_A wB sz)) 0 0 (va_A wB sz)
def Ctv (l : Launch) (D : va_G) (y : MethodName) (ws : List Cond) (rm : Room) (av : List Value) (tys : List (ClassId × FieldType)) (wB wA : va_W) : Prop := ∀ sz : Nat, Met l y ws rm (va_Pc av (ct_B D tys wB sz)) (ct_Qv D tys wA (va_A wB sz)) 0 0 (va_A wB sz)
theorem ct_blind {D : va_G} {tys : List (ClassId × FieldType)} {wB : va_W} {sz : Nat} {av : List Value} : FrameBlind (va_Pc av (ct_B D tys wB sz)) := fun a U g mk q => by
  obtain ⟨q0, q1, qP, qK, qD, qF⟩ := q
  exact ⟨q0, q1, qP, va_K.moved (u := U) (U := U.calling g mk a) (Vm.Alike.refl U.vm) qK, qD, qF.same rfl⟩
theorem ct_fm {α β : Type} {f : α → Option β} : ∀ (is : List α) (l : List β), is.map f = l.map some → is.filterMap f = l
  | [], l, h => by
    cases l with
    | nil => rfl
    | cons b l => simp at h
  | a :: is, l, h => by
    cases l with
    | nil => simp at h
    | cons b l =>
      simp only [List.map_cons, List.cons.injEq] at h
      rw [List.filterMap_cons_some h.1, ct_fm is l h.2]
theorem ct_nar {v : Int32} (h : v = 0 ∨ v = 1) : narrow .boolean (.int v) = .int v := by
  rcases h with rfl | rfl <;> rfl
/-- what a body stands on: the machine, its code, its words, its cells -/
abbrev ct_At (l : Launch) (D : va_G) (y : MethodName) (ws : List Cond) (rm : Room) (av : List Value) (tys : List (ClassId × FieldType)) (wB : va_W) (cc : ByteArray) (maxL : Nat) (ret : Option FieldType) (Qf : (Nat → Prop) → Array Value → State → Outcome → State → Prop) : Prop :=
  ∀ (p : Program) (e : Env) (s : State) (m : MethodId) (below : List Frame) (meth : Method) (c : Code) (A : Nat → Prop) (H : Heap) (locs : List Loc) (ls : Array Slot), p.tables.exec = Jvm.exec → c.code = cc → meth.sig.returnType = ret → c.maxLocals = maxL → (∀ w ∈ ws, w.before av.toArray s = true) → s.vm.findClass y.cls = some m.cls → meth.locks = false → meth.name = y.name → ct_F s → va_P D vwCl wB H → va_K D vwCl tys s → va_D A wB → (∀ q : Nat, s.heap.size ≤ q → A q) → va_S A s.heap H locs → lv_has ls maxL (lv_args 0 av) →
    W p l e rm s m av.toArray below meth c H locs 0 0 (MQ below (Qf A) av.toArray s 0 0 A) (F0 m 0 ls [])
theorem ct_of {l : Launch} {D : va_G} {y : MethodName} {ws ws' : List Cond} {rm : Room} {av : List Value} {tys : List (ClassId × FieldType)} {wB : va_W} {cc : ByteArray} {maxL : Nat} {ret : Option FieldType} {Qf : (Nat → Prop) → Array Value → State → Outcome → State → Prop}
    (hy : plainName y.cls = true) (hw : ws = Cond.code y cc maxL ret :: ws') (hn : (lg_sl av).length ≤ maxL) (body : ct_At l D y ws rm av tys wB cc maxL ret Qf) (sz : Nat) : Met l y ws rm (va_Pc av (ct_B D tys wB sz)) (Qf (va_A wB sz)) 0 0 (va_A wB sz) := by
  refine Met.ofW (cc := cc) (maxL := maxL) (ret := ret) hy hw ?_
  intro p e s m args below meth c s₁ B hml hv
  obtain ⟨rfl, hsz, hP, hK, hD0, hF⟩ := hv
  have hts := atoms_spec (ws := ws) B.pre
  have hown : s.vm.findClass y.cls = some m.cls := findClass_of_methodNamed B.named
  subst hsz
  have hl := lv_entry av (n := maxL) hn
  rw [lg_entry_eq]
  exact body p e s m below meth c (va_A wB s.heap.size) s.heap [] _ B.exec B.bytes B.returns hml hts hown B.notSynchronized (name_of_methodNamed B.named B.method).1 hF hP hK hD0.self (fun q h => Or.inr h) va_S.rf hl
section Rets
variable {p : Program} {l : Launch} {e : Env} {R : Room} {s : State} {m : MethodId} {args : Array Value} {below : List Frame} {meth : Method} {c : Code} {H : Heap} {locs : List Loc} {D : va_G} {tys : List (ClassId × FieldType)} {wA : va_W} {A : Nat → Prop} {cc : ByteArray} {pc : Nat} {ls : Array Slot}
theorem ct_zret {v r : Int32} {rt : FieldType} (hx : p.tables.exec = Jvm.exec) (hb : c.code = cc) (hr : meth.sig.returnType = some rt) (hlk : meth.locks = false) (hP : va_P D vwCl wA H) (hK : va_K D vwCl tys s) (hD : va_D A wA) (hS : va_S A s.heap H locs) (hn : narrow rt (.int v) = .int v) (hv : v = r) (hdg : decode cc pc = .ok (.ireturn, 1)) :
    W p l e R s m args below meth c H locs 0 0 (MQ below (ct_Qi D tys wA r A) args s 0 0 A) (F0 m pc ls [.int v]) :=
  W.zret (v := v) hx hb hr hn (fun t ht hW => ⟨⟨v, (), rfl, hv, by rw [ht]; exact hP, va_K.moved hW.alike hK, hD⟩, hS.F ht⟩) hS.2.2 hdg hlk
theorem ct_lret {v r : Int64} (hx : p.tables.exec = Jvm.exec) (hb : c.code = cc) (hr : meth.sig.returnType = some .long) (hlk : meth.locks = false) (hP : va_P D vwCl wA H) (hK : va_K D vwCl tys s) (hD : va_D A wA) (hS : va_S A s.heap H locs) (hv : v = r) (hdg : decode cc pc = .ok (.lreturn, 1)) :
    W p l e R s m args below meth c H locs 0 0 (MQ below (ct_Ql D tys wA r A) args s 0 0 A) (F0 m pc ls [.long v]) :=
  W.lret (v := v) hx hb hr (fun t ht hW => ⟨⟨v, (), rfl, hv, by rw [ht]; exact hP, va_K.moved hW.alike hK, hD⟩, hS.F ht⟩) hS.2.2 hdg hlk
theorem ct_vret (hx : p.tables.exec = Jvm.exec) (hb : c.code = cc) (hr : meth.sig.returnType = none) (hlk : meth.locks = false) (hP : va_P D vwCl wA H) (hK : va_K D vwCl tys s) (hD : va_D A wA) (hS : va_S A s.heap H locs) (hdg : decode cc pc = .ok (.return_, 1)) :
    W p l e R s m args below meth c H locs 0 0 (MQ below (ct_Qv D tys wA A) args s 0 0 A) (F0 m pc ls []) :=
  W.vret hx hb hr (fun t ht hW => ⟨⟨(), rfl, trivial, by rw [ht]; exact hP, va_K.moved hW.alike hK, hD⟩, hS.F ht⟩) hS.2.2 hdg hlk
end Rets
section Calls
variable {p : Program} {l : Launch} {e : Env} {R : Room} {s : State} {m : MethodId} {args : Array Value} {below : List Frame} {meth : Method} {c : Code} {H : Heap} {locs : List Loc} {cells slots : Nat} {Q : State → Prop} {D : va_G} {tys tysc : List (ClassId × FieldType)} {ws wB wr wA ws2 : va_W} {A : Nat → Prop} {cc : ByteArray} {pc : Nat} {ls : Array Slot} {st0 rest : List Value}
/-- the frame rule, for a callee that turns wB (at the places isC) into wA: wr (at isR) stays; the new world by pm -/
theorem ct_goi {r : Int32} {a : Array Value} (hr : va_Run p l e R s m args below meth c H locs cells slots 0 0 (F0 m pc ls st0) rest (ct_Qi D tysc wA r (va_A wB H.size) a) (va_A wB H.size))
    (isC isR pm : List Nat) (hP : va_P D vwCl ws H) (hD : va_D A ws) (hS : va_S A s.heap H locs) (hA : ∀ q, s.heap.size ≤ q → A q)
    (hC : isC.map (fun i => ws[i]?) = wB.map some) (hR : isR.map (fun i => ws[i]?) = wr.map some) (hn : va_nd isR = true) (hdis : ∀ i ∈ isR, i ∉ isC) (hpm : pm.map (fun i => (wr ++ wA)[i]?) = ws2.map some) (hpn : va_nd pm = true)
    (k : ∀ (H1 : Heap) (locs1 : List Loc), va_P D vwCl ws2 H1 → va_D A ws2 → va_S A s.heap H1 locs1 → W p l e R s m args below meth c H1 locs1 cells slots Q (F0 m (pc + 3) ls (.int r :: rest))) : W p l e R s m args below meth c H locs cells slots Q (F0 m pc ls st0) := by
  have hFc := va_free (wc := wB) hD hS hA isC hC
  refine va_calli hr hS (fun q _ h => hFc q h) hFc (fun r' u t H1 locs1 ht hvm hw hB hz1 hk1 hS1 => ?_)
  obtain ⟨hP1, hK1, hD1⟩ := hB
  rw [ht] at hP1
  obtain ⟨hP2, hD2⟩ := va_join hP hD isC isR hC hR hn hdis hk1 hFc hP1 hD1
  subst hw
  exact k H1 locs1 (hP2.sub pm (ct_fm _ _ hpm)) (hD2.sub pm hpn hpm) hS1
theorem ct_gol {r : Int64} {a : Array Value} (hr : va_Run p l e R s m args below meth c H locs cells slots 0 0 (F0 m pc ls st0) rest (ct_Ql D tysc wA r (va_A wB H.size) a) (va_A wB H.size))
    (isC isR pm : List Nat) (hP : va_P D vwCl ws H) (hD : va_D A ws) (hS : va_S A s.heap H locs) (hA : ∀ q, s.heap.size ≤ q → A q)
    (hC : isC.map (fun i => ws[i]?) = wB.map some) (hR : isR.map (fun i => ws[i]?) = wr.map some) (hn : va_nd isR = true) (hdis : ∀ i ∈ isR, i ∉ isC) (hpm : pm.map (fun i => (wr ++ wA)[i]?) = ws2.map some) (hpn : va_nd pm = true)
    (k : ∀ (H1 : Heap) (locs1 : List Loc), va_P D vwCl ws2 H1 → va_D A ws2 → va_S A s.heap H1 locs1 → W p l e R s m args below meth c H1 locs1 cells slots Q (F0 m (pc + 3) ls (.long r :: rest))) : W p l e R s m args below meth c H locs cells slots Q (F0 m pc ls st0) := by
  have hFc := va_free (wc := wB) hD hS hA isC hC
  refine va_calll hr hS (fun q _ h => hFc q h) hFc (fun r' u t H1 locs1 ht hvm hw hB hz1 hk1 hS1 => ?_)
  obtain ⟨hP1, hK1, hD1⟩ := hB
  rw [ht] at hP1
  obtain ⟨hP2, hD2⟩ := va_join hP hD isC isR hC hR hn hdis hk1 hFc hP1 hD1
  subst hw
  exact k H1 locs1 (hP2.sub pm (ct_fm _ _ hpm)) (hD2.sub pm hpn hpm) hS1
theorem ct_gov {a : Array Value} (hr : va_Run p l e R s m args below meth c H locs cells slots 0 0 (F0 m pc ls st0) rest (ct_Qv D tysc wA (va_A wB H.size) a) (va_A wB H.size))
    (isC isR pm : List Nat) (hP : va_P D vwCl ws H) (hD : va_D A ws) (hS : va_S A s.heap H locs) (hA : ∀ q, s.heap.size ≤ q → A q)
    (hC : isC.map (fun i => ws[i]?) = wB.map some) (hR : isR.map (fun i => ws[i]?) = wr.map some) (hn : va_nd isR = true) (hdis : ∀ i ∈ isR, i ∉ isC) (hpm : pm.map (fun i => (wr ++ wA)[i]?) = ws2.map some) (hpn : va_nd pm = true)
    (k : ∀ (H1 : Heap) (locs1 : List Loc), va_P D vwCl ws2 H1 → va_D A ws2 → va_S A s.heap H1 locs1 → W p l e R s m args below meth c H1 locs1 cells slots Q (F0 m (pc + 3) ls rest)) : W p l e R s m args below meth c H locs cells slots Q (F0 m pc ls st0) := by
  have hFc := va_free (wc := wB) hD hS hA isC hC
  refine va_callv hr hS (fun q _ h => hFc q h) hFc (fun u t H1 locs1 ht hvm hw hB hz1 hk1 hS1 => ?_)
  obtain ⟨hP1, hK1, hD1⟩ := hB
  rw [ht] at hP1
  obtain ⟨hP2, hD2⟩ := va_join hP hD isC isR hC hR hn hdis hk1 hFc hP1 hD1
  exact k H1 locs1 (hP2.sub pm (ct_fm _ _ hpm)) (hD2.sub pm hpn hpm) hS1
theorem ct_preV {C : String} {b : Nat} {As : List Value} (isT : List Nat) (hT : isT.filterMap (fun i => tys[i]?) = tysc) (isC : List Nat) (hF : ct_F s) (hK : va_K D vwCl tys s) (hP : va_P D vwCl ws H) (hD : va_D A ws) (hC : isC.map (fun i => ws[i]?) = wB.map some) (hCn : va_nd isC = true)
    (q0 ci : Nat) {fs : List Value} {cq : vw_C} (hc : vwCl[ci]? = some cq) (hcC : cq.1 = C) (he : wB[q0]? = some (b, .inr (ci, fs))) : PreV s H C b (va_Pc (.ref b :: As) (ct_B D tysc wB H.size)) As := by
  have hPc : va_P D vwCl wB H := hP.sub isC (ct_fm _ _ hC)
  have hDc : va_D A wB := hD.sub isC hCn hC
  have hKc : va_K D vwCl tysc s := hK.sub isT hT
  subst hcC
  exact ⟨ct_blind, va_recv hKc hPc hc he, fun U hU hW => ⟨rfl, by rw [hU], by rw [hU]; exact hPc, va_K.moved hW.alike hKc, hDc.weaken (fun _ _ _ _ => trivial), hF.warm hW⟩⟩
section V
variable {Ts wsy : List Cond} {own C : String} {index maxL nL n b : Nat} {y : MethodName} {bytes : ByteArray} {ret : Option FieldType} {rm : Room} {As : List Value}
theorem ct_callVi {r : Int32} (S : CallFix p m c cc nL s args Ts own) (hM : Cti l D y wsy rm (.ref b :: As) tysc wB wA r) (cw : CallW R s args own C index y bytes maxL ret wsy rm 0 0 n) (isT : List Nat) (hT : isT.filterMap (fun i => tys[i]?) = tysc)
    (isC isR pm : List Nat) (hF : ct_F s) (hK : va_K D vwCl tys s) (hP : va_P D vwCl ws H) (hD : va_D A ws) (hS : va_S A s.heap H locs) (hA : ∀ q, s.heap.size ≤ q → A q) (q0 ci : Nat) {fs : List Value} {cq : vw_C} (hc : vwCl[ci]? = some cq) (hcC : cq.1 = C) (he : wB[q0]? = some (b, .inr (ci, fs)))
    (hC : isC.map (fun i => ws[i]?) = wB.map some) (hCn : va_nd isC = true) (hR : isR.map (fun i => ws[i]?) = wr.map some) (hn : va_nd isR = true) (hdis : ∀ i ∈ isR, i ∉ isC) (hpm : pm.map (fun i => (wr ++ wA)[i]?) = ws2.map some) (hpn : va_nd pm = true)
    (hlen : As.length = n) (hsize : ls.size = nL) (hst : st0 = As.reverse ++ .ref b :: rest) (hW : (rest.map fun v => v.category).sum ≤ 8) (hdg : decode cc pc = .ok (.invokevirtual index, 3)) (hf : cells ≤ R.cells ∧ slots ≤ R.slots)
    (k : ∀ (H1 : Heap) (locs1 : List Loc), va_P D vwCl ws2 H1 → va_D A ws2 → va_S A s.heap H1 locs1 → W p l e R s m args below meth c H1 locs1 cells slots Q (F0 m (pc + 3) ls (.int r :: rest))) : W p l e R s m args below meth c H locs cells slots Q (F0 m pc ls st0) :=
  ct_goi (va_runV S (hM H.size) cw (ct_preV isT hT isC hF hK hP hD hC hCn q0 ci hc hcC he) rfl hlen hsize hst (lv_room hW) hdg hf) isC isR pm hP hD hS hA hC hR hn hdis hpm hpn k
theorem ct_callVl {r : Int64} (S : CallFix p m c cc nL s args Ts own) (hM : Ctl l D y wsy rm (.ref b :: As) tysc wB wA r) (cw : CallW R s args own C index y bytes maxL ret wsy rm 0 0 n) (isT : List Nat) (hT : isT.filterMap (fun i => tys[i]?) = tysc)
    (isC isR pm : List Nat) (hF : ct_F s) (hK : va_K D vwCl tys s) (hP : va_P D vwCl ws H) (hD : va_D A ws) (hS : va_S A s.heap H locs) (hA : ∀ q, s.heap.size ≤ q → A q) (q0 ci : Nat) {fs : List Value} {cq : vw_C} (hc : vwCl[ci]? = some cq) (hcC : cq.1 = C) (he : wB[q0]? = some (b, .inr (ci, fs)))
    (hC : isC.map (fun i => ws[i]?) = wB.map some) (hCn : va_nd isC = true) (hR : isR.map (fun i => ws[i]?) = wr.map some) (hn : va_nd isR = true) (hdis : ∀ i ∈ isR, i ∉ isC) (hpm : pm.map (fun i => (wr ++ wA)[i]?) = ws2.map some) (hpn : va_nd pm = true)
    (hlen : As.length = n) (hsize : ls.size = nL) (hst : st0 = As.reverse ++ .ref b :: rest) (hW : (rest.map fun v => v.category).sum ≤ 8) (hdg : decode cc pc = .ok (.invokevirtual index, 3)) (hf : cells ≤ R.cells ∧ slots ≤ R.slots)
    (k : ∀ (H1 : Heap) (locs1 : List Loc), va_P D vwCl ws2 H1 → va_D A ws2 → va_S A s.heap H1 locs1 → W p l e R s m args below meth c H1 locs1 cells slots Q (F0 m (pc + 3) ls (.long r :: rest))) : W p l e R s m args below meth c H locs cells slots Q (F0 m pc ls st0) :=
  ct_gol (va_runV S (hM H.size) cw (ct_preV isT hT isC hF hK hP hD hC hCn q0 ci hc hcC he) rfl hlen hsize hst (lv_room hW) hdg hf) isC isR pm hP hD hS hA hC hR hn hdis hpm hpn k
theorem ct_callVv (S : CallFix p m c cc nL s args Ts own) (hM : Ctv l D y wsy rm (.ref b :: As) tysc wB wA) (cw : CallW R s args own C index y bytes maxL ret wsy rm 0 0 n) (isT : List Nat) (hT : isT.filterMap (fun i => tys[i]?) = tysc)
    (isC isR pm : List Nat) (hF : ct_F s) (hK : va_K D vwCl tys s) (hP : va_P D vwCl ws H) (hD : va_D A ws) (hS : va_S A s.heap H locs) (hA : ∀ q, s.heap.size ≤ q → A q) (q0 ci : Nat) {fs : List Value} {cq : vw_C} (hc : vwCl[ci]? = some cq) (hcC : cq.1 = C) (he : wB[q0]? = some (b, .inr (ci, fs)))
    (hC : isC.map (fun i => ws[i]?) = wB.map some) (hCn : va_nd isC = true) (hR : isR.map (fun i => ws[i]?) = wr.map some) (hn : va_nd isR = true) (hdis : ∀ i ∈ isR, i ∉ isC) (hpm : pm.map (fun i => (wr ++ wA)[i]?) = ws2.map some) (hpn : va_nd pm = true)
    (hlen : As.length = n) (hsize : ls.size = nL) (hst : st0 = As.reverse ++ .ref b :: rest) (hW : (rest.map fun v => v.category).sum ≤ 8) (hdg : decode cc pc = .ok (.invokevirtual index, 3)) (hf : cells ≤ R.cells ∧ slots ≤ R.slots)
    (k : ∀ (H1 : Heap) (locs1 : List Loc), va_P D vwCl ws2 H1 → va_D A ws2 → va_S A s.heap H1 locs1 → W p l e R s m args below meth c H1 locs1 cells slots Q (F0 m (pc + 3) ls rest)) : W p l e R s m args below meth c H locs cells slots Q (F0 m pc ls st0) :=
  ct_gov (va_runV S (hM H.size) cw (ct_preV isT hT isC hF hK hP hD hC hCn q0 ci hc hcC he) rfl hlen hsize hst (lv_room hW) hdg hf) isC isR pm hP hD hS hA hC hR hn hdis hpm hpn k
variable {owner : String} {x : MethodName}
theorem ct_callUi {r : Int32} (S : CallFix p m c cc nL s args Ts own) (hM : Cti l D y wsy rm (.ref b :: As) tysc wB wA r) (cw : va_CU R s args own C owner index x y bytes maxL ret wsy rm 0 0 n) (isT : List Nat) (hT : isT.filterMap (fun i => tys[i]?) = tysc)
    (isC isR pm : List Nat) (hF : ct_F s) (hK : va_K D vwCl tys s) (hP : va_P D vwCl ws H) (hD : va_D A ws) (hS : va_S A s.heap H locs) (hA : ∀ q, s.heap.size ≤ q → A q) (q0 ci : Nat) {fs : List Value} {cq : vw_C} (hc : vwCl[ci]? = some cq) (hcC : cq.1 = C) (he : wB[q0]? = some (b, .inr (ci, fs)))
    (hC : isC.map (fun i => ws[i]?) = wB.map some) (hCn : va_nd isC = true) (hR : isR.map (fun i => ws[i]?) = wr.map some) (hn : va_nd isR = true) (hdis : ∀ i ∈ isR, i ∉ isC) (hpm : pm.map (fun i => (wr ++ wA)[i]?) = ws2.map some) (hpn : va_nd pm = true)
    (hlen : As.length = n) (hsize : ls.size = nL) (hst : st0 = As.reverse ++ .ref b :: rest) (hW : (rest.map fun v => v.category).sum ≤ 8) (hdg : decode cc pc = .ok (.invokevirtual index, 3)) (hf : cells ≤ R.cells ∧ slots ≤ R.slots)
    (k : ∀ (H1 : Heap) (locs1 : List Loc), va_P D vwCl ws2 H1 → va_D A ws2 → va_S A s.heap H1 locs1 → W p l e R s m args below meth c H1 locs1 cells slots Q (F0 m (pc + 3) ls (.int r :: rest))) : W p l e R s m args below meth c H locs cells slots Q (F0 m pc ls st0) :=
  ct_goi (va_runU S (hM H.size) cw (ct_preV isT hT isC hF hK hP hD hC hCn q0 ci hc hcC he) rfl hlen hsize hst (lv_room hW) hdg hf) isC isR pm hP hD hS hA hC hR hn hdis hpm hpn k
theorem ct_callUv (S : CallFix p m c cc nL s args Ts own) (hM : Ctv l D y wsy rm (.ref b :: As) tysc wB wA) (cw : va_CU R s args own C owner index x y bytes maxL ret wsy rm 0 0 n) (isT : List Nat) (hT : isT.filterMap (fun i => tys[i]?) = tysc)
    (isC isR pm : List Nat) (hF : ct_F s) (hK : va_K D vwCl tys s) (hP : va_P D vwCl ws H) (hD : va_D A ws) (hS : va_S A s.heap H locs) (hA : ∀ q, s.heap.size ≤ q → A q) (q0 ci : Nat) {fs : List Value} {cq : vw_C} (hc : vwCl[ci]? = some cq) (hcC : cq.1 = C) (he : wB[q0]? = some (b, .inr (ci, fs)))
    (hC : isC.map (fun i => ws[i]?) = wB.map some) (hCn : va_nd isC = true) (hR : isR.map (fun i => ws[i]?) = wr.map some) (hn : va_nd isR = true) (hdis : ∀ i ∈ isR, i ∉ isC) (hpm : pm.map (fun i => (wr ++ wA)[i]?) = ws2.map some) (hpn : va_nd pm = true)
    (hlen : As.length = n) (hsize : ls.size = nL) (hst : st0 = As.reverse ++ .ref b :: rest) (hW : (rest.map fun v => v.category).sum ≤ 8) (hdg : decode cc pc = .ok (.invokevirtual index, 3)) (hf : cells ≤ R.cells ∧ slots ≤ R.slots)
    (k : ∀ (H1 : Heap) (locs1 : List Loc), va_P D vwCl ws2 H1 → va_D A ws2 → va_S A s.heap H1 locs1 → W p l e R s m args below meth c H1 locs1 cells slots Q (F0 m (pc + 3) ls rest)) : W p l e R s m args below meth c H locs cells slots Q (F0 m pc ls st0) :=
  ct_gov (va_runU S (hM H.size) cw (ct_preV isT hT isC hF hK hP hD hC hCn q0 ci hc hcC he) rfl hlen hsize hst (lv_room hW) hdg hf) isC isR pm hP hD hS hA hC hR hn hdis hpm hpn k
end V
end Calls
end CT
