/-! one row of a table catches: what the search finds, where the thread goes on -/
section XCT
variable {p : Program} {l : Launch} {e : Env} {R : Room} {s : State} {m : MethodId} {args : Array Value} {below : List Frame} {meth : Method} {c : Code} {T : State} {H : Heap} {locs : List Loc} {cells slots : Nat} {Q : State → Prop} {pc : Nat} {ls : Array Slot} {rest : List Value}
theorem xct_row {K : Handler → Pre} {E : CtlPost} {d : Bool} {acts : List Action} {S : State} {f : JFrame} {a : Addr} {x : ExceptionTableEntry} {ci : ClassId} {cell : Cell} (hx : covers x f.pc = true) (h0 : x.catchType ≠ 0)
    (hl : S.vm.ClassLinks e.platform f.method.cls x.catchType ci) (hcell : S.heap[a]? = some cell) (hobj : ∀ k, cell.vm ≠ .statics k)
    (hk : ∃ k, S.vm.classes[cell.cls]? = some k) (hc : ∃ k, S.vm.classes[ci]? = some k) (hfit : S.vm.assignable cell.cls ci = true) :
    wp (findHandler.go f a [x]) K E e d acts S ↔ K (.found x.handlerPc) d acts (S.setVm (S.vm.noted f.method.cls x.catchType (.cls ci))) := by
  simp only [covers] at hx
  obtain ⟨w1, w2⟩ := (resolveClass_links e.toSetting hl).op (op := VmOp.resolveClass f.method.cls x.catchType) rfl
  have hal : S.vm.Alike (S.vm.noted f.method.cls x.catchType (.cls ci)) := (Vm.Alike.refl S.vm).noted _ _ _
  obtain ⟨k1, hk1⟩ := hk
  obtain ⟨k2, hk2⟩ := hc
  obtain ⟨q1, hq1, -⟩ := hal.2.2 _ _ hk1
  obtain ⟨q2, hq2, -⟩ := hal.2.2 _ _ hk2
  have hf2 : (S.vm.noted f.method.cls x.catchType (.cls ci)).assignable cell.cls ci = true := by rw [hal.assignable]; exact hfit
  simp [findHandler.go, hx, h0, w1, w2, hcell, hobj, hq1, hq2, hf2, VmOp.dirties, VmOp.acts]
theorem xct_push (X : Stand p l e R s m args below meth c T locs cells slots) (g : JFrame) (a : Addr) : (T.setTop g).pushFrame (.throwing a) = T.setFrames (.throwing a :: .java g :: below) := by
  obtain ⟨g1, hfr⟩ := X.frames_eq
  rw [State.pushFrame, State.frames_setTop _ hfr, State.setTop_of_frames _ hfr, State.setFrames_setFrames]
theorem xct_step {S : State} {a : Addr} {f : JFrame} {r : List Frame} {t : Nat} {vm9 : Vm} (hfind : ∀ (K : Handler → Pre) (E : CtlPost) (d : Bool) (acts : List Action), wp (findHandler f a) K E e d acts S ↔ K (.found t) d acts (S.setVm vm9)) :
    (stepThrowing e S a (.java f :: r)).Is ((S.setVm vm9).setFrames (.java { f with pc := t, stack := [.ref a] } :: r)) [] := by
  simp only [stepThrowing, searchFrame, vmDo]
  generalize hr : Sem.go _ e false [] S = res
  obtain ⟨as, rfl, ha⟩ := Sem.eq_ok_of hr (a := Handler.found t) (s' := S.setVm vm9) (acts' := []) (by simp [hfind _ _ _ _])
  exact ⟨rfl, ha⟩
/-- the method's only row takes what was thrown -/
theorem xcatch {own name : String} {E : String} {ce : Cell} {q : Addr} (hown : s.vm.findClass own = some m.cls) (x : ExceptionTableEntry) (htab : c.exceptionTable.toList = [x]) (hx : covers x pc = true) (h0 : x.catchType ≠ 0)
    (hlink : (Cond.classLink own x.catchType name).before args s = true) (hcast : (Cond.castable E name).before args s = true) (hcell : H[q]? = some ce) (hv : ce.vm = .none) (hcl : s.vm.findClass E = some ce.cls)
    (kk : W p l e R s m args below meth c H locs cells slots Q (F0 m x.handlerPc ls [.ref q])) : vx_W p l e R s m args below meth c H locs cells slots Q (F0 m pc ls rest) q := by
  intro T hT X
  have hpl : e.platform.magicAccessors = ({} : Platform).magicAccessors := by rw [X.admits.platform]
  obtain ⟨c3, c4, hc3, hc4, hasg⟩ := Cond.castable_spec hcast
  cases Option.some.inj (hc3.symm.trans hcl)
  obtain ⟨c5, hc5, hln⟩ := Cond.classLink_spec hown hlink e.platform hpl
  cases Option.some.inj (hc4.symm.trans hc5)
  obtain ⟨dk, _, _, kt, hd, _, _, _, _, hkt, _, hopen⟩ := hln.here
  have hln9 := X.warmed.classLinks hln
  have hW9 : s.WarmedH (T.vm.noted m.cls x.catchType (.cls c4)) := X.warmed.noted hd hopen (State.rightAt_cls hln)
  have hal := X.warmed.alike
  obtain ⟨kt9, hkt9, -⟩ := hal.2.2 _ _ hkt
  have hfit9 : T.vm.assignable ce.cls c4 = true := by rw [hal.assignable]; exact hasg
  have hce : T.heap[q]? = some ce := by rw [hT]; exact hcell
  obtain ⟨t, a1, b1⟩ := kk (T.setVm (T.vm.noted m.cls x.catchType (.cls c4))) hT (X.noted hW9)
  refine ⟨t, ?_, b1⟩
  have hfind : ∀ (K : Handler → Pre) (E : CtlPost) (d : Bool) (acts : List Action), wp (findHandler (F0 m pc ls rest) q) K E e d acts ((T.setTop (F0 m pc ls rest)).pushFrame (.throwing q)) ↔ K (.found x.handlerPc) d acts (((T.setTop (F0 m pc ls rest)).pushFrame (.throwing q)).setVm (T.vm.noted m.cls x.catchType (.cls c4))) := by
    intro K E d acts
    rw [W.findHandler_eq (s := (T.setTop (F0 m pc ls rest)).pushFrame (.throwing q)) (f := F0 m pc ls rest) (meth := meth) (code := c) X.method' X.code, htab]
    exact xct_row (S := (T.setTop (F0 m pc ls rest)).pushFrame (.throwing q)) (f := F0 m pc ls rest) (ci := c4) (cell := ce) hx h0 hln9 hce (VmData.ne_statics_of (by rw [hv]; rfl)) (Vm.classAt_of_assignable hfit9 ⟨kt9, hkt9⟩) ⟨kt9, hkt9⟩ hfit9
  obtain ⟨hgo, hw⟩ := X.here.throwing (g := F0 m pc ls rest) q
  refine Steps.head hgo hw ?_
  rw [stepThread_throwing (frames_entered X.here.top _), (xct_step hfind).1]
  obtain ⟨g9, hg9⟩ := Option.isSome_iff_exists.mp X.here.top
  obtain ⟨r, hr⟩ := State.topJava?_eq_some.mp hg9
  have hr9 : (T.setVm (T.vm.noted m.cls x.catchType (.cls c4))).frames = .java g9 :: r := hr
  rw [State.setTop_of_frames _ hr9] at a1
  rw [hr, List.tail_cons, State.pushFrame, show ∀ (u : State) (w : Vm) (F G : List Frame), ((u.setFrames F).setVm w).setFrames G = (u.setVm w).setFrames G from fun u w F G => by rw [show (u.setFrames F).setVm w = (u.setVm w).setFrames F from rfl, State.setFrames_setFrames], State.setTop_of_frames _ hr, show ∀ (u : State) (w : Vm) (F G : List Frame), ((u.setFrames F).setVm w).setFrames G = (u.setVm w).setFrames G from fun u w F G => by rw [show (u.setFrames F).setVm w = (u.setVm w).setFrames F from rfl, State.setFrames_setFrames]]
  exact a1
end XCT
/-- what Throwable's constructor reads of its statics -/
def xZ (A : Nat → Prop) (U : State) (H : Heap) : Prop := vx_Zq Bundle.tN "UNASSIGNED_STACK" Bundle.steD A U H ∧ vx_Zq Bundle.tN "SUPPRESSED_SENTINEL" Bundle.listD A U H
theorem xZ.move {A B : Nat → Prop} {s U : State} {H H1 : Heap} (hvm : s.vm.Alike U.vm) (hq : ∀ a : Nat, a < H.size → ¬ A a → H1[a]? = H[a]?) (hAB : ∀ q, B q → A q) (h : xZ A s H) : xZ B U H1 := ⟨((h.1.kept hq).narrow hAB).moved hvm, ((h.2.kept hq).narrow hAB).moved hvm⟩
def xPx (D : va_G) (T : Nat → ClassId) (av : List Value) (sz : Nat) (ws : va_W) : Array Value → State → Prop := va_Pc av (fun U => U.heap.size = sz ∧ va_P D vwCl ws U.heap ∧ xK D T U ∧ va_D (fun _ => True) ws ∧ xZ (va_A ws sz) U U.heap)
theorem xPx_blind {D : va_G} {T : Nat → ClassId} {av : List Value} {sz : Nat} {ws : va_W} : FrameBlind (xPx D T av sz ws) := fun a U g mk q => by
  obtain ⟨q0, q1, qP, qK, qD, qZ⟩ := q
  exact ⟨q0, q1, qP, xK.same (u := U) (U := U.calling g mk a) rfl qK, qD, xZ.move (s := U) (U := U.calling g mk a) (Vm.Alike.refl U.vm) (fun _ _ _ => rfl) (fun _ h => h) qZ⟩
theorem xpreSx {D : va_G} {T : Nat → ClassId} {As : List Value} {ws : va_W} {s : State} {H : Heap} {A B : Nat → Prop} {locs : List Loc} (hK : xK D T s) (hP : va_P D vwCl ws H) (hD : va_D B ws) (hZ : xZ A s s.heap) (hF : ∀ q, va_A ws H.size q → A q) (hS : va_S A s.heap H locs) : PreS s H (xPx D T As H.size ws) As :=
  ⟨xPx_blind, fun U hU hW => ⟨rfl, by rw [hU], by rw [hU]; exact hP, hK.warm hW, hD.weaken (fun _ _ _ _ => trivial), by rw [hU]; exact xZ.move hW.alike hS.2.1 hF hZ⟩⟩
theorem xpreVx {D : va_G} {T : Nat → ClassId} {As : List Value} {ws : va_W} {s : State} {H : Heap} {A B : Nat → Prop} {locs : List Loc} {C : String} {b : Addr} (hK : xK D T s) (hP : va_P D vwCl ws H) (hD : va_D B ws) (hZ : xZ A s s.heap) (hF : ∀ q, va_A ws H.size q → A q) (hS : va_S A s.heap H locs) (hr : ∃ cell : Cell, H[b]? = some cell ∧ cell.vm.isStatics = false ∧ s.vm.findClass C = some cell.cls) : PreV s H C b (xPx D T (.ref b :: As) H.size ws) As :=
  ⟨xPx_blind, hr, fun U hU hW => ⟨rfl, by rw [hU], by rw [hU]; exact hP, hK.warm hW, hD.weaken (fun _ _ _ _ => trivial), by rw [hU]; exact xZ.move hW.alike hS.2.1 hF hZ⟩⟩
def xwW (y : MethodName) (b : ByteArray) (n : Nat) (r : Option FieldType) (hh : List (Nat × Nat × Nat × Nat)) : List Cond := .codeWith y b n r hh :: xg
theorem xg_okW {y : MethodName} {b : ByteArray} {n : Nat} {r : Option FieldType} {hh : List (Nat × Nat × Nat × Nat)} (h : Cond.codeWith y b n r hh ∈ xg) : GoodIn xg (xwW y b n r hh) := by
  intro w hw
  rcases List.mem_cons.mp hw with e | e
  · subst e
    exact ⟨h, xg_good _ h⟩
  · exact ⟨e, xg_good _ e⟩
theorem xofWW {l : Launch} {y : MethodName} {ws ws' : List Cond} {rm : Room} {Pc : Array Value → State → Prop} {Qc : Array Value → State → Outcome → State → Prop} {mc ms : Nat} {free : Addr → Prop} {cc : ByteArray} {maxL : Nat} {ret : Option FieldType} {hh : List (Nat × Nat × Nat × Nat)}
    (hy : plainName y.cls = true) (hw : ws = Cond.codeWith y cc maxL ret hh :: ws')
    (body : ∀ p e s m args below meth c s₁ (R : Room) (Q : State → Prop), R = rm → Q = MQ below Qc args s mc ms free → BodyLoose p l y (headSpec ws rm) cc maxL ret e s m args below meth c s₁ → c.maxLocals = maxL → Pc args s →
      W p l e R s m args below meth c s.heap [] 0 0 Q (entryFrame m args maxL)) : Met l y ws rm Pc Qc mc ms free := by
  refine MetFree.of_bodyS (code := cc) (maxLocals := maxL) (ret := ret) hy ?_ ?_
  · intro args s m h hn
    obtain ⟨m9, meth, c, hn9, h1, h2, h3, h4, -, h5, h6, -⟩ := Cond.codeWith_spec (atoms_spec (ws := ws) h _ (by rw [hw]; exact List.mem_cons_self))
    cases hn.symm.trans hn9
    exact ⟨meth, c, h1, h2, h3, h4, h5, h6⟩
  · intro p e s m args below meth c s₁ B hml hP _
    have hh0 : s₁.heap = s.heap := by rw [B.state]; rfl
    obtain ⟨t, a1, o, b1, b2, b3⟩ := body p e s m args below meth c s₁ _ _ rfl rfl B hml hP s₁ hh0 (Stand.of_body B)
    exact ⟨t, o, a1, b1, b2, b3⟩
theorem xofWx {l : Launch} {y : MethodName} {ws ws' : List Cond} {rm : Room} {Pc : Array Value → State → Prop} {Qc : Array Value → State → Outcome → State → Prop} {XC : String → State → State → Prop} {mc ms : Nat} {free : Addr → Prop} {cc : ByteArray} {maxL : Nat} {ret : Option FieldType}
    (hy : plainName y.cls = true) (hw : ws = Cond.code y cc maxL ret :: ws')
    (body : ∀ p e s m args below meth c s₁ (R : Room) (Q : State → Prop), R = rm → Q = vx_MQ below Qc XC args s mc ms free → BodyLoose p l y (headSpec ws rm) cc maxL ret e s m args below meth c s₁ → c.maxLocals = maxL → (∀ x ∈ c.exceptionTable.toList, False) → Pc args s →
      W p l e R s m args below meth c s.heap [] 0 0 Q (entryFrame m args maxL)) : vx_Met l y ws rm Pc Qc XC mc ms free :=
  vx_ofW hy hw (fun p e s m args below meth c s₁ B hml ht hv => body p e s m args below meth c s₁ _ _ rfl rfl B hml ht hv)
