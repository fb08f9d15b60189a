section CTN
abbrev ct_Qn {S : Type} (D : va_G) (tA : S → List (ClassId × FieldType)) (wA : S → va_W) (A : Nat → Prop) : Array Value → State → Outcome → State → Prop := va_Qv (fun (_ : S) => True) (fun u => ct_E D (tA u) (wA u) A) A
/-- a constructor that makes mc cells of ms slots: what stands behind it, by the new addresses u -/
def Ctn {S : Type} (l : Launch) (D : va_G) (y : MethodName) (ws : List Cond) (rm : Room) (av : List Value) (tys : List (ClassId × FieldType)) (wB : va_W) (tA : S → List (ClassId × FieldType)) (wA : S → va_W) (mc ms : Nat) : Prop := ∀ sz : Nat, Met l y ws rm (va_Pc av (ct_B D tys wB sz)) (ct_Qn D tA wA (va_A wB sz)) mc ms (va_A wB sz)
abbrev ct_AtN (l : Launch) (D : va_G) (y : MethodName) (ws : List Cond) (rm : Room) (av : List Value) (tys : List (ClassId × FieldType)) (wB : va_W) (cc : ByteArray) (maxL : Nat) (ret : Option FieldType) (mc ms : Nat) (Qf : (Nat → Prop) → Array Value → State → Outcome → State → Prop) : Prop :=
  ∀ (p : Program) (e : Env) (s : State) (m : MethodId) (below : List Frame) (meth : Method) (c : Code) (A : Nat → Prop) (H : Heap) (locs : List Loc) (ls : Array Slot), p.tables.exec = Jvm.exec → c.code = cc → meth.sig.returnType = ret → c.maxLocals = maxL → (∀ w ∈ ws, w.before av.toArray s = true) → s.vm.findClass y.cls = some m.cls → meth.locks = false → meth.name = y.name → ct_F s → va_P D vwCl wB H → va_K D vwCl tys s → va_D A wB → (∀ q : Nat, s.heap.size ≤ q → A q) → va_S A s.heap H locs → lv_has ls maxL (lv_args 0 av) →
    W p l e rm s m av.toArray below meth c H locs 0 0 (MQ below (Qf A) av.toArray s mc ms A) (F0 m 0 ls [])
theorem ct_ofN {l : Launch} {D : va_G} {y : MethodName} {ws ws' : List Cond} {rm : Room} {av : List Value} {tys : List (ClassId × FieldType)} {wB : va_W} {cc : ByteArray} {maxL mc ms : Nat} {ret : Option FieldType} {Qf : (Nat → Prop) → Array Value → State → Outcome → State → Prop}
    (hy : plainName y.cls = true) (hw : ws = Cond.code y cc maxL ret :: ws') (hn : (lg_sl av).length ≤ maxL) (body : ct_AtN l D y ws rm av tys wB cc maxL ret mc ms Qf) (sz : Nat) : Met l y ws rm (va_Pc av (ct_B D tys wB sz)) (Qf (va_A wB sz)) mc ms (va_A wB sz) := by
  refine Met.ofW (cc := cc) (maxL := maxL) (ret := ret) hy hw ?_
  intro p e s m args below meth c s₁ B hml hv
  obtain ⟨rfl, hsz, hP, hK, hD0, hF⟩ := hv
  have hts := atoms_spec (ws := ws) B.pre
  have hown : s.vm.findClass y.cls = some m.cls := findClass_of_methodNamed B.named
  subst hsz
  have hl := lv_entry av (n := maxL) hn
  rw [lg_entry_eq]
  exact body p e s m below meth c (va_A wB s.heap.size) s.heap [] _ B.exec B.bytes B.returns hml hts hown B.notSynchronized (name_of_methodNamed B.named B.method).1 hF hP hK hD0.self (fun q h => Or.inr h) va_S.rf hl
section Rules
variable {p : Program} {l : Launch} {e : Env} {R : Room} {s : State} {m : MethodId} {args : Array Value} {below : List Frame} {meth : Method} {c : Code} {H : Heap} {locs : List Loc} {cells slots mc ms : Nat} {Q : State → Prop} {D : va_G} {tys tysc : List (ClassId × FieldType)} {ws wB wr wA ws2 : va_W} {A : Nat → Prop} {cc : ByteArray} {pc : Nat} {ls : Array Slot} {st0 rest : List Value}
theorem ct_vretN {S : Type} {tA : S → List (ClassId × FieldType)} {wN : S → va_W} (u : S) (hx : p.tables.exec = Jvm.exec) (hb : c.code = cc) (hr : meth.sig.returnType = none) (hlk : meth.locks = false) (hP : va_P D vwCl (wN u) H) (hK : va_K D vwCl (tA u) s) (hD : va_D A (wN u)) (hS : va_S A s.heap H locs) (hdg : decode cc pc = .ok (.return_, 1)) :
    W p l e R s m args below meth c H locs cells slots (MQ below (ct_Qn D tA wN A) args s cells slots A) (F0 m pc ls []) :=
  W.vret hx hb hr (fun t ht hW => ⟨⟨u, rfl, trivial, by rw [ht]; exact hP, va_K.moved hW.alike hK, hD⟩, hS.F ht⟩) hS.2.2 hdg hlk
theorem ct_goN {S : Type} {tA : S → List (ClassId × FieldType)} {wN : S → va_W} {a : Array Value} (hr : va_Run p l e R s m args below meth c H locs cells slots mc ms (F0 m pc ls st0) rest (ct_Qn D tA wN (va_A wB H.size) a) (va_A wB H.size))
    (isC isR : List Nat) (hK : va_K D vwCl tys s) (hP : va_P D vwCl ws H) (hD : va_D A ws) (hS : va_S A s.heap H locs) (hA : ∀ q, s.heap.size ≤ q → A q)
    (hC : isC.map (fun i => ws[i]?) = wB.map some) (hR : isR.map (fun i => ws[i]?) = wr.map some) (hn : va_nd isR = true) (hdis : ∀ i ∈ isR, i ∉ isC)
    (k : ∀ (u : S) (H1 : Heap) (locs1 : List Loc), va_K D vwCl (tys ++ tA u) s → va_P D vwCl (wr ++ wN u) H1 → va_D A (wr ++ wN u) → va_S A s.heap H1 locs1 → W p l e R s m args below meth c H1 locs1 (cells + mc) (slots + ms) Q (F0 m (pc + 3) ls rest)) : W p l e R s m args below meth c H locs cells slots Q (F0 m pc ls st0) := by
  have hFc := va_free (wc := wB) hD hS hA isC hC
  refine va_callv hr hS (fun q _ h => hFc q h) hFc (fun u t H1 locs1 ht hvm hw hB hz1 hk1 hS1 => ?_)
  obtain ⟨hP1, hK1, hD1⟩ := hB
  rw [ht] at hP1
  obtain ⟨hP2, hD2⟩ := va_join hP hD isC isR hC hR hn hdis hk1 hFc hP1 hD1
  exact k u H1 locs1 (hK.app (va_K.moved hvm.symm hK1)) hP2 hD2 hS1
theorem ct_preS {b : Nat} {As : List Value} (isC : List Nat) (hF : ct_F s) (hK : va_K D vwCl tysc s) (hP : va_P D vwCl ws H) (hD : va_D A ws) (hC : isC.map (fun i => ws[i]?) = wB.map some) (hCn : va_nd isC = true) : PreS s H (va_Pc (.ref b :: As) (ct_B D tysc wB H.size)) (.ref b :: As) := by
  have hPc : va_P D vwCl wB H := hP.sub isC (ct_fm _ _ hC)
  have hDc : va_D A wB := hD.sub isC hCn hC
  exact ⟨ct_blind, fun U hU hW => ⟨rfl, by rw [hU], by rw [hU]; exact hPc, va_K.moved hW.alike hK, hDc.weaken (fun _ _ _ _ => trivial), hF.warm hW⟩⟩
section I
variable {Ts wsy : List Cond} {own : String} {index maxL nL n b : Nat} {y : MethodName} {bytes : ByteArray} {rm : Room} {As : List Value}
/-- a constructor that makes cells -/
theorem ct_callIn {S : Type} {tA : S → List (ClassId × FieldType)} {wN : S → va_W} (S0 : CallFix p m c cc nL s args Ts own) (hM : Ctn l D y wsy rm (.ref b :: As) [] wB tA wN mc ms) (cw : CallB R s args own index y bytes maxL none wsy rm mc ms n ∧ y.name = "<init>" ∧ (Cond.instanceMethod y).before args s = true)
    (isC isR : List Nat) (hF : ct_F s) (hK : va_K D vwCl tys s) (hP : va_P D vwCl ws H) (hD : va_D A ws) (hS : va_S A s.heap H locs) (hA : ∀ q, s.heap.size ≤ q → A q)
    (hC : isC.map (fun i => ws[i]?) = wB.map some) (hCn : va_nd isC = true) (hR : isR.map (fun i => ws[i]?) = wr.map some) (hn : va_nd isR = true) (hdis : ∀ i ∈ isR, i ∉ isC)
    (hlen : As.length = n) (hsize : ls.size = nL) (hst : st0 = As.reverse ++ .ref b :: rest) (hW : (rest.map fun v => v.category).sum ≤ 8) (hdg : decode cc pc = .ok (.invokespecial index, 3)) (hf : cells + mc ≤ R.cells ∧ slots + ms ≤ R.slots)
    (k : ∀ (u : S) (H1 : Heap) (locs1 : List Loc), va_K D vwCl (tys ++ tA u) s → va_P D vwCl (wr ++ wN u) H1 → va_D A (wr ++ wN u) → va_S A s.heap H1 locs1 → W p l e R s m args below meth c H1 locs1 (cells + mc) (slots + ms) Q (F0 m (pc + 3) ls rest)) : W p l e R s m args below meth c H locs cells slots Q (F0 m pc ls st0) :=
  ct_goN (va_runI S0 (hM H.size) cw (ct_preS isC hF (hK.sub [] rfl) hP hD hC hCn) rfl hlen hsize hst (lv_room hW) hdg hf) isC isR hK hP hD hS hA hC hR hn hdis k
/-- a constructor that makes none -/
theorem ct_callIv (S0 : CallFix p m c cc nL s args Ts own) (hM : Ctv l D y wsy rm (.ref b :: As) [] wB wA) (cw : CallB R s args own index y bytes maxL none wsy rm 0 0 n ∧ y.name = "<init>" ∧ (Cond.instanceMethod y).before args s = true)
    (isC isR pm : List Nat) (hF : ct_F s) (hK : va_K D vwCl tys s) (hP : va_P D vwCl ws H) (hD : va_D A ws) (hS : va_S A s.heap H locs) (hA : ∀ q, s.heap.size ≤ q → A q)
    (hC : isC.map (fun i => ws[i]?) = wB.map some) (hCn : va_nd isC = true) (hR : isR.map (fun i => ws[i]?) = wr.map some) (hn : va_nd isR = true) (hdis : ∀ i ∈ isR, i ∉ isC) (hpm : pm.map (fun i => (wr ++ wA)[i]?) = ws2.map some) (hpn : va_nd pm = true)
    (hlen : As.length = n) (hsize : ls.size = nL) (hst : st0 = As.reverse ++ .ref b :: rest) (hW : (rest.map fun v => v.category).sum ≤ 8) (hdg : decode cc pc = .ok (.invokespecial index, 3)) (hf : cells ≤ R.cells ∧ slots ≤ R.slots)
    (k : ∀ (H1 : Heap) (locs1 : List Loc), va_P D vwCl ws2 H1 → va_D A ws2 → va_S A s.heap H1 locs1 → W p l e R s m args below meth c H1 locs1 cells slots Q (F0 m (pc + 3) ls rest)) : W p l e R s m args below meth c H locs cells slots Q (F0 m pc ls st0) :=
  ct_gov (va_runI S0 (hM H.size) cw (ct_preS isC hF (hK.sub [] rfl) hP hD hC hCn) rfl hlen hsize hst (lv_room hW) hdg hf) isC isR pm hP hD hS hA hC hR hn hdis hpm hpn k
/-- the nest's private constructor, over no cell -/
theorem ct_callNv {host : String} (S0 : CallFix p m c cc nL s args Ts own) (hM : Ctv l D y wsy rm (.ref b :: As) [] [] []) (cw : va_CN R s args own index y host bytes maxL none wsy rm 0 0 n ∧ y.name = "<init>" ∧ (Cond.instanceMethod y).before args s = true)
    (isR : List Nat) (hF : ct_F s) (hK : va_K D vwCl tys s) (hP : va_P D vwCl ws H) (hD : va_D A ws) (hS : va_S A s.heap H locs) (hA : ∀ q, s.heap.size ≤ q → A q) (hR : isR.map (fun i => ws[i]?) = ws.map some) (hn : va_nd isR = true)
    (hlen : As.length = n) (hsize : ls.size = nL) (hst : st0 = As.reverse ++ .ref b :: rest) (hW : (rest.map fun v => v.category).sum ≤ 8) (hdg : decode cc pc = .ok (.invokespecial index, 3)) (hf : cells ≤ R.cells ∧ slots ≤ R.slots)
    (k : ∀ (H1 : Heap) (locs1 : List Loc), va_P D vwCl ws H1 → va_D A ws → va_S A s.heap H1 locs1 → W p l e R s m args below meth c H1 locs1 cells slots Q (F0 m (pc + 3) ls rest)) : W p l e R s m args below meth c H locs cells slots Q (F0 m pc ls st0) :=
  ct_gov (wB := []) (wr := ws) (wA := []) (va_runIN S0 (hM H.size) cw (ct_preS (ws := ws) (A := A) [] hF (hK.sub [] rfl) hP hD rfl rfl) rfl hlen hsize hst (lv_room hW) hdg hf) [] isR isR hP hD hS hA rfl hR hn (fun _ _ h => absurd h List.not_mem_nil) (by rw [List.append_nil]; exact hR) hn k
end I
end Rules
end CTN
