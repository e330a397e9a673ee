/-! a static method that the named class inherits: the entry is read from the tables first, then the call runs as any static call's -/
theorem z_static_cold {Q : Unit → Pre} {E : CtlPost} {e : Env} {b : Bool} {acts : List Action} {s s0 : State} {f : JFrame} {ix ci nt : Nat} {cn : ClassId} {mk : MethodId} {kd kc : Class} {cf : ClassFile} {nm ds : String} (ht : s.topJava?.isSome) (hv : e.platform.polymorphicOnlyByInvokevirtual = true)
    (hW : s0.WarmedH s.vm) (hE : s0.MethodEntryUp e s.vm f.method.cls ix cn mk ci) (hd : s0.vm.classes[f.method.cls]? = some kd) (hf : kd.cf = some cf)
    (hp : cf.constantPool[ix]? = some (if false then .interfaceMethodref ci nt else .methodref ci nt)) (hn : cf.constantPool.nameAndType? nt = some (nm, ds))
    (hc : s0.vm.classes[cn]? = some kc) (hno : (kc.methods.any fun y => y.name == nm && !y.isStatic && signaturePolymorphic kc y) = false) :
    wp (invokestatic.sem ix) Q E e b acts (s.setTop f) ↔ wp (invokestatic.sem ix) Q E e b acts ((s.setVm (s.vm.calledUp f.method.cls ci ix cn mk)).setTop f) := by
  obtain ⟨g1, -, w1, g2⟩ := hE.classFirst
  obtain ⟨ka, hka, ea⟩ := hW.alike.2.2 _ _ hd
  obtain ⟨kb, hkb, eb⟩ := hE.warmed.alike.2.2 _ _ hd
  obtain ⟨kx, hkx, ex⟩ := w1.alike.2.2 _ _ hc
  obtain ⟨ky, hky, ey⟩ := hE.warmed.alike.2.2 _ _ hc
  have ra := memberRef_ask_via (e := e) hka (by rw [ea]; exact hf) hp hn
  have rb := memberRef_ask_via (e := e) hkb (by rw [eb]; exact hf) hp hn
  have nx : (kx.methods.any fun y => y.name == nm && !y.isStatic && signaturePolymorphic kx y) = false := by rw [ex]; exact hno
  have ny : (ky.methods.any fun y => y.name == nm && !y.isStatic && signaturePolymorphic ky y) = false := by rw [ey]; exact hno
  have t1 : (s.setVm (s.vm.noted f.method.cls ci (.cls cn))).topJava?.isSome := ht
  have t2 : (s.setVm (s.vm.calledUp f.method.cls ci ix cn mk)).topJava?.isSome := ht
  have l1 : ∀ {Q' : ClassId → Pre} {b' : Bool} {a' : List Action}, wp (Jvm.resolveClassAt ci) Q' E e b' a' (s.setTop f) ↔ Q' cn b' a' ((s.setVm (s.vm.noted f.method.cls ci (.cls cn))).setTop f) :=
    W.resolveClassAt_links (t := s.setTop f) (State.method?_setTop f ht) g1
  have l2 : ∀ {Q' : MethodId → Pre} {b' : Bool} {a' : List Action}, wp (Jvm.resolveMethodAt ix) Q' E e b' a' ((s.setVm (s.vm.noted f.method.cls ci (.cls cn))).setTop f) ↔ Q' mk b' a' ((s.setVm (s.vm.calledUp f.method.cls ci ix cn mk)).setTop f) :=
    W.resolveMethodAt_links (t := (s.setVm (s.vm.noted f.method.cls ci (.cls cn))).setTop f) (State.method?_setTop f t1) g2
  simp [invokestatic.sem, hv, Seam.memberRefOf, State.method?_setTop f ht, State.method?_setTop f t2, ra, rb, l1, W.resolveClassAt_ready (s := (s.setVm (s.vm.calledUp f.method.cls ci ix cn mk)).setTop f) (State.method?_setTop f t2) hE.classReady,
    hkx, hky, nx, ny, l2, W.resolveMethodAt_ready (s := (s.setVm (s.vm.calledUp f.method.cls ci ix cn mk)).setTop f) (State.method?_setTop f t2) hE.ready, -Array.any_eq_true]
section ZSTATIC
variable {p : Program} {l : Launch} {e : Env} {R : Room} {s : State} {m : MethodId} {args : Array Value} {below : List Frame} {meth : Method} {c : Code}
theorem z_static_up {T : State} {locs : List Loc} {cells slots : Nat} (X : Stand p l e R s m args below meth c T locs cells slots) (hx : p.tables.exec = Jvm.exec) {own owner : String} {ix : Nat} {x : MethodName}
    (hown : s.vm.findClass own = some m.cls) (hlink : (Cond.methodLink own ix x).before args s = true) (hsame : (Cond.sameMethod x.cls owner x.name x.desc).before args s = true)
    (hstat : (Cond.static ⟨owner, x.name, x.desc⟩).before args s = true) (hinit : (Cond.initialized owner).before args s = true) {bytes : ByteArray} {maxL : Nat} {ret : Option FieldType} (hcode : (Cond.code ⟨owner, x.name, x.desc⟩ bytes maxL ret).before args s = true)
    (howner : owner ≠ "java/lang/invoke/MethodHandle" ∧ owner ≠ "java/lang/invoke/VarHandle")
    {W : Nat} {Pre : Pt → Array Value → Prop} {Post : Pt → Array Value → Option Value → Pt → Prop} (hK : Back l R p e below s args ⟨owner, x.name, x.desc⟩ 3 W Pre Post)
    {g : JFrame} (hg : g.method = m) (hsize : g.locals.size = c.maxLocals) {argsL rest : List Value} (hlen : ∀ sig, parseMethodDescriptor x.desc = some sig → argsL.length = sig.parameters.length)
    (hstack : g.stack = argsL.reverse ++ rest) (hW : 2 * g.monitorRoom + (rest.map fun v => v.category).sum ≤ W) (hdg : decode c.code g.pc = .ok (.invokestatic ix, 3))
    (hpre : ∀ vm₁, s.WarmedH vm₁ → Pre ⟨T.setVm vm₁, locs, cells, slots⟩ argsL.toArray) :
    ∃ (v : Option Value) (vm₁ : Vm) (B : Pt), s.WarmedH vm₁ ∧ Stand p l e R s m args below meth c B.U B.locs B.cells B.slots ∧ Post ⟨T.setVm vm₁, locs, cells, slots⟩ argsL.toArray v B ∧
      ∀ target, Steps p.tables e below (B.U.setTop { g with pc := g.pc + 3, stack := v.toList ++ rest }) target → Steps p.tables e below (T.setTop g) target := by
  have hpl : e.platform.magicAccessors = ({} : Platform).magicAccessors := by rw [X.admits.platform]
  have hpv : e.platform.polymorphicOnlyByInvokevirtual = true := by rw [X.admits.platform]
  obtain ⟨mk, hn⟩ := Cond.code_named hcode
  obtain ⟨mm, cm, hm, -, -, -, -, -, -, hsig⟩ := Cond.code_spec hn hcode
  have hst : mm.isStatic = true := Cond.static_spec hn hm hstat
  obtain ⟨ko, hko, hno⟩ := className_of_methodNamed hn
  have hin : ko.init = .initialized := Cond.initialized_spec (findClass_of_methodNamed hn) hko hinit
  obtain ⟨cn, ck, r1, hcn, hck, hni, hfd, hn1⟩ := Cond.sameMethod_found hsame
  cases hn.symm.trans hn1
  obtain ⟨ci, hl, hright⟩ := Cond.methodLink_specUp hown hcn hck hni hfd hlink e.platform hpl (by rw [X.admits.platform])
  have hE : s.MethodEntryUp e T.vm m.cls ix cn mk ci := State.methodEntryUp X.warmed hl hright
  obtain ⟨kd, cf, nt, nm, ds, ck', _, _, hd, hcf, hcp, hnt, -, -, hck', -, hpoly, -⟩ := hl.here
  cases hck.symm.trans hck'
  have al := hE.warmed.alike
  obtain ⟨kd2, hkd2, ed2⟩ := al.2.2 _ _ hd
  obtain ⟨ko2, hko2, eo2⟩ := al.2.2 _ _ hko
  obtain ⟨ck2, hck2, ec2⟩ := al.2.2 _ _ hck
  have n1 : (ck.methods.any fun y => y.name == nm && !y.isStatic && signaturePolymorphic ck y) = false := by simp [hpoly]
  have n2 : (ck2.methods.any fun y => y.name == nm && !y.isStatic && signaturePolymorphic ck2 y) = false := by rw [ec2]; exact n1
  have hcp2 : cf.constantPool[ix]? = some (if false then .interfaceMethodref ci nt else .methodref ci nt) := hcp
  have X1 : Stand p l e R s m args below meth c (T.setVm (T.vm.calledUp m.cls ci ix cn mk)) locs cells slots := X.noted hE.warmed
  have hstep : ∀ target, (∀ acts, Steps p.tables e below (doInvoke e ((T.setVm (T.vm.calledUp m.cls ci ix cn mk)).setTop { g with stack := rest }) acts mk argsL.toArray).1 target) → Steps p.tables e below (T.setTop g) target := by
    intro target hrest
    subst hg
    jvm_step X.here [hx, hdg, z_static_cold (e := e) (s := T) (s0 := s) (f := g) X.here.top hpv X.warmed hE hd hcf hcp2 hnt hck n1,
      invokestatic.wp_ready (e := e) (s := T.setVm (T.vm.calledUp g.method.cls ci ix cn mk)) (k := ko2) (meth := mm) (m := mk) (args := argsL) (rest := rest) (f := g)
        X.here.top ⟨ci, nm, ds, false, cn, ck2, memberRef_ask_via (e := e) hkd2 (by rw [ed2]; exact hcf) hcp2 hnt, hE.classReady, hck2, n2⟩ hE.ready hko2
        (by show (T.vm.calledUp g.method.cls ci ix cn mk).method? mk = some mm; rw [al.method?]; exact hm)
        (by rw [eo2]; show signaturePolymorphic ko mm = false; simp [signaturePolymorphic, hno, howner.1, howner.2]) hst (by rw [eo2]; exact hin) (hlen _ hsig) hstack]
    exact fun acts => hrest _
  obtain ⟨v, B, X', hpost, hsteps⟩ := hK m meth c ⟨T.setVm (T.vm.calledUp m.cls ci ix cn mk), locs, cells, slots⟩ { g with stack := rest } (.invokestatic ix) mk argsL.toArray X1 hg hsize hdg hW (X1.named hn) (hpre _ X1.warmed)
  exact ⟨v, _, B, X1.warmed, X', hpost, fun target h => hstep _ fun acts => by rw [doInvoke_state]; exact hsteps.trans h⟩
end ZSTATIC
/-- a static method that the named class inherits, to be called -/
theorem z_csSI {own owner : String} {R rm : Room} {sh : List ZE} {x : MethodName} {cc' : ByteArray} {nL' : Nat} {rt' : Option FieldType} {mc n i : Nat} {wp : ZW} (h : z_Ok sh ⟨owner, x.name, x.desc⟩ cc' nL' rt' rm mc wp)
    (h1 : Cond.methodLink own i x ∈ lw_g) (h6 : Cond.sameMethod x.cls owner x.name x.desc ∈ lw_g) (h2 : Cond.static ⟨owner, x.name, x.desc⟩ ∈ lw_g) (h3 : Cond.initialized owner ∈ lw_g) (h4 : Cond.code ⟨owner, x.name, x.desc⟩ cc' nL' rt' ∈ lw_g) (hrc : rm.cells = mc) (hrs : rm.slots = mc)
    (hd : owner ≠ "java/lang/invoke/MethodHandle" ∧ owner ≠ "java/lang/invoke/VarHandle" ∧ (parseMethodDescriptor x.desc).map (fun d => d.parameters.length) = some n) (hR : rm.frames + 1 ≤ R.frames ∧ 8 + (nL' + 11) + rm.locals ≤ R.locals) : z_cs1 own R sh i (n, mc, true, wp) := by
  intro p l e s m args below meth c D cA q A ex nL Q cc rt C g pc L as r S post hdec hlen hcat hroom hw hk H locs ls hP hD hS hL
  obtain ⟨hx, hb, hml, hr, hlocks, hown, hts, hK, hA⟩ := id C
  have hM := h l as S post hw D cA q ex H.size
  have hB : Back l R p e below s args ⟨owner, x.name, x.desc⟩ 3 8 (PreOf R mc mc (z_Pre D cA q sh ex S H.size as)) (PostOf (z_Q D cA q sh ex post (va_A (z_ws cA q S sh ++ ex) H.size)) mc mc (va_A (z_ws cA q S sh ++ ex) H.size)) :=
    back_of (bytes := cc') (maxL := nL') (ret := rt') hM z_Pre_blind hrc hrs hR.1 hR.2 (pay_in hts (z_gi h4)) List.mem_cons_self (fun a' U hW => word_at hW (Or.inl (by first | rfl | simp [Cond.onTables, Cond.keeps, Cond.steady])) (hts _ h3))
  have hrun : va_Run p l e R s m args below meth c H locs g g mc mc (F0 m pc ls ((as.reverse ++ r).map (z_em q))) (r.map (z_em q)) (z_Q D cA q sh ex post (va_A (z_ws cA q S sh ++ ex) H.size) (as.map (z_em q)).toArray) (va_A (z_ws cA q S sh ++ ex) H.size) := by
    intro T hT X
    obtain ⟨v, vm₁, ⟨U', l2, c2, s2⟩, hW₁, X', ⟨g', mk, t, L2, e1, e2, hq, h1', hL2, h2', h3'⟩, st⟩ := z_static_up X hx hown (hts _ h1) (hts _ h6) (hts _ h2) (hts _ h3) (hts _ h4) ⟨hd.1, hd.2.1⟩ hB (g := F0 m pc ls ((as.reverse ++ r).map (z_em q))) rfl (hL.1.trans hml.symm) (argsL := as.map (z_em q)) (rest := r.map (z_em q))
      (fun sig hs => by have h9 := hd.2.2; rw [hs] at h9; rw [List.length_map, hlen]; exact (Option.some.inj h9).symm) (by simp) (lv_room (by rw [z_cat_em]; exact hcat)) (by rw [hb]; exact hdec)
      (fun vm₁ hW₁ => ⟨hroom.1, hroom.2, rfl, by show T.heap.size = _; rw [hT], by show va_P _ _ _ T.heap; rw [hT]; exact hP, hK.warm hW₁, hD.weaken (fun _ _ _ _ => trivial)⟩)
    dsimp only [Pt.U, Pt.locs, Pt.cells, Pt.slots] at X' e1 e2 h1' h2' h3' st
    subst h1'; subst h2'; subst h3'
    exact ⟨v, (T.setVm vm₁).calling g' mk _, t, U', L2, hT, X', hL2, e1, e2, hq, st⟩
  refine z_go hrun hD hS hA (fun v S2 H1 locs1 hp hP1 hD1 hS1 => ?_)
  have := hk v S2 hp H1 locs1 ls hP1 hD1 hS1 hL
  rw [List.map_append] at this
  cases v <;> exact this
