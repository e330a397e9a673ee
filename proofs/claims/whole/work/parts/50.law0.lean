/-! ===== the law: one world, the class's cells and the model's ===== -/
def lz_wc (cA cM : Nat → ClassId) (q qM : Nat → Nat) (S S' : ZS) : va_W := z_ws cA q S (z_shC []) ++ z_ws cM qM S' z_shM
def lz_W (p : Program) (l : Launch) (e : Env) (s : State) (m : MethodId) (below : List Frame) (meth : Method) (c : Code) (D : va_G) (cA cM : Nat → ClassId) (q qM : Nat → Nat) (b : Nat) (Q : State → Prop) (g pc : Nat) (i : Int32) (st : List Value) (S S' : ZS) : Prop :=
  ∀ (H : Heap) (locs : List Loc) (ls : Array Slot), va_P D z_cl (lz_wc cA cM q qM S S') H → va_D (fun x => s.heap.size ≤ x) (lz_wc cA cM q qM S S') → va_S (fun x => s.heap.size ≤ x) s.heap H locs → lv_has ls 4 [(3, .int i), (2, .ref (qM 0)), (1, .ref (q 0)), (0, .ref b)] → W p l e room_1 s m #[.ref b] below meth c H locs g g Q (F0 m pc ls st)
def lz_C (p : Program) (s : State) (m : MethodId) (c : Code) (D : va_G) (cA cM : Nat → ClassId) (b L : Nat) (xs : Nat → Int32) : Prop :=
  p.tables.exec = Jvm.exec ∧ c.code = code ∧ c.maxLocals = 4 ∧ s.vm.findClass "NineBooksLaw" = some m.cls ∧ (∀ w ∈ lw_g, w.before #[Value.ref b] s = true) ∧ z_K D cA (z_shC []) s ∧ z_K D cM z_shM s ∧ va_X b L xs s s.heap ∧ b < s.heap.size ∧ L ≤ 3072
theorem lz_and (x : Int32) : ∃ n, n < 64 ∧ x &&& 63 = nI n := by
  refine ⟨(x &&& 63).toBitVec.toNat, ?_, ?_⟩
  · rw [Int32.toBitVec_and, BitVec.toNat_and]
    exact Nat.lt_of_le_of_lt Nat.and_le_right (by decide)
  · apply Int32.toBitVec_inj.mp
    show _ = BitVec.ofNat 32 _
    rw [BitVec.ofNat_toNat, BitVec.setWidth_eq]
theorem lz_cmp {L i : Nat} (hL : L ≤ 3072) (hi : i ≤ 3072) : (Int32.ofNat L - 6 < nI i) ↔ L < i + 6 := by
  have e1 : (Int32.ofNat L).toInt = (L : Int) := n_ti (by omega)
  have e2 : (nI i).toInt = (i : Int) := n_ti (by omega)
  have e3 : (6 : Int32).toInt = 6 := by decide
  rw [Int32.lt_iff_toInt_lt, Int32.toInt_sub, e1, e2, e3, Int.bmod_eq_of_le (by omega) (by omega)]
  omega
theorem lz_add {a b : Nat} : nI a + nI b = nI (a + b) := by
  apply Int32.toBitVec_inj.mp
  show BitVec.ofNat 32 a + BitVec.ofNat 32 b = BitVec.ofNat 32 (a + b)
  rw [BitVec.ofNat_add]
theorem lz_Psw {D : va_G} {cl : List vw_C} {x y : va_W} {H : Heap} (h : va_P D cl (x ++ y) H) : va_P D cl (y ++ x) H := va_P.swap (a := []) (b := x) (c := y) h
theorem lz_Dsw {A : Nat → Prop} {x y : va_W} (h : va_D A (x ++ y)) : va_D A (y ++ x) := va_D.swap (a := []) (b := x) (c := y) h
section LAW
variable {p : Program} {l : Launch} {e : Env} {s : State} {m : MethodId} {below : List Frame} {meth : Method} {c : Code} {D : va_G} {cA cM : Nat → ClassId} {q qM : Nat → Nat} {b L : Nat} {xs : Nat → Int32} {Q : State → Prop} {g pc : Nat} {S S' : ZS} {st : List Value}
theorem lz_al1 {i : Int32} (C : lz_C p s m c D cA cM b L xs) (d : decode code pc = .ok (.aload_n 1, 1)) (h : lz_W p l e s m below meth c D cA cM q qM b Q g (pc + 1) i (.ref (q 0) :: st) S S') : lz_W p l e s m below meth c D cA cM q qM b Q g pc i st S S' := by
  intro H locs ls hP hD hS hl
  exact lv_aload_n C.1 C.2.1 d rfl (lv_at hl 2 rfl) (h H locs ls hP hD hS hl)
theorem lz_al2 {i : Int32} (C : lz_C p s m c D cA cM b L xs) (d : decode code pc = .ok (.aload_n 2, 1)) (h : lz_W p l e s m below meth c D cA cM q qM b Q g (pc + 1) i (.ref (qM 0) :: st) S S') : lz_W p l e s m below meth c D cA cM q qM b Q g pc i st S S' := by
  intro H locs ls hP hD hS hl
  exact lv_aload_n C.1 C.2.1 d rfl (lv_at hl 1 rfl) (h H locs ls hP hD hS hl)
theorem lz_arg {i k : Nat} {n : Int} (C : lz_C p s m c D cA cM b L xs) (hi : i + 6 ≤ L) (hk : k < 6) (hn : Int32.ofInt n = nI k) (d0 : decode code pc = .ok (.aload_n 0, 1)) (d1 : decode code (pc + 1) = .ok (.iload_n 3, 1)) (d2 : decode code (pc + 2) = .ok (.iconst n, 1)) (d3 : decode code (pc + 3) = .ok (.iadd, 1)) (d4 : decode code (pc + 4) = .ok (.iaload, 1))
    (h : lz_W p l e s m below meth c D cA cM q qM b Q g (pc + 5) (nI i) (.int (xs (i + k)) :: st) S S') : lz_W p l e s m below meth c D cA cM q qM b Q g pc (nI i) st S S' := by
  intro H locs ls hP hD hS hl
  obtain ⟨hx, hb, hml, hown, hts, hKc, hKm, hX, hbl, hL⟩ := C
  refine lv_aload_n hx hb d0 rfl (lv_at hl 3 rfl) ?_
  refine lv_iload_n hx hb d1 rfl (lv_at hl 0 rfl) ?_
  refine lv_iconst hx hb d2 hn ?_
  refine lv_iadd hx hb d3 ?_
  rw [lz_add]
  refine va_sld hx hb hX hbl (Nat.not_le.mpr hbl) hS (n_in (by omega) (by omega)) d4 ?_
  rw [n_cl (by omega)]
  exact h H locs ls hP hD hS hl
theorem lz_cC {y : MethodName} {cc' : ByteArray} {nL' : Nat} {rt' : Option FieldType} {rm : Room} {mc n i0 : Nat} {wp : ZW} (C : lz_C p s m c D cA cM b L xs) (h : z_Ok (z_shC []) y cc' nL' rt' rm mc wp)
    (h1 : Cond.methodLink "NineBooksLaw" i0 y ∈ lw_g) (h2 : Cond.instanceMethod y ∈ lw_g) (h3 : Cond.selects RX7 y y ∈ lw_g) (h4 : Cond.code y cc' nL' rt' ∈ lw_g) (h5 : Cond.initialized y.cls ∈ lw_g) (hrc : rm.cells = mc) (hrs : rm.slots = mc)
    (hd : y.cls ≠ "java/lang/invoke/MethodHandle" ∧ y.cls ≠ "java/lang/invoke/VarHandle" ∧ (parseMethodDescriptor y.desc).map (fun d => d.parameters.length) = some n) (hR : rm.frames + 1 ≤ room_1.frames ∧ 8 + (nL' + 11) + rm.locals ≤ room_1.locals)
    {i : Int32} {as r : List Value} {v : Value} {P : ZS → Prop} (d : decode code pc = .ok (.invokevirtual i0, 3)) (hlen : as.length = n) (has : as.map (z_em q) = as) (hv : z_em q v = v) (hcat : (r.map fun v => v.category).sum ≤ 8) (hg : g + mc ≤ 846983)
    (hw : wp (.ref 0 :: as) S (fun r S2 => r = some v ∧ P S2)) (hk : ∀ S2, P S2 → lz_W p l e s m below meth c D cA cM q qM b Q (g + mc) (pc + 3) i (v :: r) S2 S') : lz_W p l e s m below meth c D cA cM q qM b Q g pc i (as.reverse ++ .ref (q 0) :: r) S S' := by
  intro H locs ls hP hD hS hl
  obtain ⟨hx, hb, hml, hown, hts, hKc, hKm, hX, hbl, hL⟩ := C
  have cb : CallB room_1 s #[Value.ref b] "NineBooksLaw" i0 y cc' nL' rt' (Cond.code y cc' nL' rt' :: lw_g) rm mc mc n := callB_of n hts (z_gi h4) rfl hrc hrs (hts _ h5) (hts _ h1) hd hR
  have hm := h l _ S _ hw D cA q (z_ws cM qM S' z_shM) H.size
  have hP : va_P D z_cl (z_ws cA q S (z_shC []) ++ z_ws cM qM S' z_shM) H := hP
  have hD : va_D (fun x => s.heap.size ≤ x) (z_ws cA q S (z_shC []) ++ z_ws cM qM S' z_shM) := hD
  obtain ⟨fs, hfs⟩ : ∃ fs, (z_shC [])[0]? = some (.inr (6, fs)) := ⟨_, rfl⟩
  refine z_go (sh := z_shC []) (ex := z_ws cM qM S' z_shM) (A := fun x => s.heap.size ≤ x) (va_runV (C := RX7) (b := q 0) (As := as.map (z_em q)) (rest := r) ⟨hx, hb, hml, hown, hts⟩ hm ⟨cb, hts _ h2, hts _ h3⟩ ⟨z_Pre_blind, va_recv (ci := 6) hKc.va hP rfl (z_at hfs), fun U hU hW => ⟨rfl, by rw [hU], by rw [hU]; exact hP, hKc.warm hW, hD.weaken (fun _ _ _ _ => trivial)⟩⟩ rfl (by rw [List.length_map]; exact hlen) hl.1 (by rw [has]) (lv_room hcat) d ⟨hg, Nat.le_trans hg (Nat.le_of_ble_eq_true rfl)⟩) hD hS (fun _ h => h) (fun v0 S2 H1 locs1 hp hP1 hD1 hS1 => ?_)
  obtain ⟨rfl, hp⟩ := hp
  have := hk S2 hp H1 locs1 ls hP1 hD1 hS1 hl
  show W p l e room_1 s m _ below meth c H1 locs1 _ _ Q (F0 m (pc + 3) ls (z_em q v :: r))
  rw [hv]
  exact this
theorem lz_cM {y : MethodName} {cc' : ByteArray} {nL' : Nat} {rt' : Option FieldType} {rm : Room} {mc n i0 : Nat} {wp : ZW} (C : lz_C p s m c D cA cM b L xs) (h : z_Ok z_shM y cc' nL' rt' rm mc wp)
    (h1 : Cond.methodLink "NineBooksLaw" i0 y ∈ lw_g) (h2 : Cond.instanceMethod y ∈ lw_g) (h3 : Cond.selects RX8 y y ∈ lw_g) (h4 : Cond.code y cc' nL' rt' ∈ lw_g) (h5 : Cond.initialized y.cls ∈ lw_g) (hrc : rm.cells = mc) (hrs : rm.slots = mc)
    (hd : y.cls ≠ "java/lang/invoke/MethodHandle" ∧ y.cls ≠ "java/lang/invoke/VarHandle" ∧ (parseMethodDescriptor y.desc).map (fun d => d.parameters.length) = some n) (hR : rm.frames + 1 ≤ room_1.frames ∧ 8 + (nL' + 11) + rm.locals ≤ room_1.locals)
    {i : Int32} {as r : List Value} {v : Value} {P : ZS → Prop} (d : decode code pc = .ok (.invokevirtual i0, 3)) (hlen : as.length = n) (has : as.map (z_em qM) = as) (hv : z_em qM v = v) (hcat : (r.map fun v => v.category).sum ≤ 8) (hg : g + mc ≤ 846983)
    (hw : wp (.ref 0 :: as) S' (fun r S2 => r = some v ∧ P S2)) (hk : ∀ S2, P S2 → lz_W p l e s m below meth c D cA cM q qM b Q (g + mc) (pc + 3) i (v :: r) S S2) : lz_W p l e s m below meth c D cA cM q qM b Q g pc i (as.reverse ++ .ref (qM 0) :: r) S S' := by
  intro H locs ls hP hD hS hl
  obtain ⟨hx, hb, hml, hown, hts, hKc, hKm, hX, hbl, hL⟩ := C
  have cb : CallB room_1 s #[Value.ref b] "NineBooksLaw" i0 y cc' nL' rt' (Cond.code y cc' nL' rt' :: lw_g) rm mc mc n := callB_of n hts (z_gi h4) rfl hrc hrs (hts _ h5) (hts _ h1) hd hR
  have hm := h l _ S' _ hw D cM qM (z_ws cA q S (z_shC [])) H.size
  have hP : va_P D z_cl (z_ws cM qM S' z_shM ++ z_ws cA q S (z_shC [])) H := lz_Psw (x := z_ws cA q S (z_shC [])) (y := z_ws cM qM S' z_shM) hP
  have hD : va_D (fun x => s.heap.size ≤ x) (z_ws cM qM S' z_shM ++ z_ws cA q S (z_shC [])) := lz_Dsw (x := z_ws cA q S (z_shC [])) (y := z_ws cM qM S' z_shM) hD
  obtain ⟨fs, hfs⟩ : ∃ fs, z_shM[0]? = some (.inr (7, fs)) := ⟨_, rfl⟩
  refine z_go (sh := z_shM) (ex := z_ws cA q S (z_shC [])) (A := fun x => s.heap.size ≤ x) (va_runV (C := RX8) (b := qM 0) (As := as.map (z_em qM)) (rest := r) ⟨hx, hb, hml, hown, hts⟩ hm ⟨cb, hts _ h2, hts _ h3⟩ ⟨z_Pre_blind, va_recv (ci := 7) hKm.va hP rfl (z_at hfs), fun U hU hW => ⟨rfl, by rw [hU], by rw [hU]; exact hP, hKm.warm hW, hD.weaken (fun _ _ _ _ => trivial)⟩⟩ rfl (by rw [List.length_map]; exact hlen) hl.1 (by rw [has]) (lv_room hcat) d ⟨hg, Nat.le_trans hg (Nat.le_of_ble_eq_true rfl)⟩) hD hS (fun _ h => h) (fun v0 S2 H1 locs1 hp hP1 hD1 hS1 => ?_)
  obtain ⟨rfl, hp⟩ := hp
  have hP1 : va_P D z_cl (lz_wc cA cM q qM S S2) H1 := lz_Psw (x := z_ws cM qM S2 z_shM) (y := z_ws cA q S (z_shC [])) hP1
  have hD1 : va_D (fun x => s.heap.size ≤ x) (lz_wc cA cM q qM S S2) := lz_Dsw (x := z_ws cM qM S2 z_shM) (y := z_ws cA q S (z_shC [])) hD1
  have := hk S2 hp H1 locs1 ls hP1 hD1 hS1 hl
  show W p l e room_1 s m _ below meth c H1 locs1 _ _ Q (F0 m (pc + 3) ls (z_em qM v :: r))
  rw [hv]
  exact this
theorem lz_endI {i x : Int32} {off : Int} (C : lz_C p s m c D cA cM b L xs) (d : decode code pc = .ok (.if_icmp .eq off, 3)) (ht : (pc : Int) + off = ((1282 : Nat) : Int)) (h : lz_W p l e s m below meth c D cA cM q qM b Q g 1282 i [] S S') : lz_W p l e s m below meth c D cA cM q qM b Q g pc i [.int x, .int x] S S' := by
  intro H locs ls hP hD hS hl
  exact lv_icmp_eq C.1 C.2.1 d ht (fun _ => h H locs ls hP hD hS hl) (fun z => absurd rfl z)
theorem lz_endJ {i : Int32} {x : Int64} {off : Int} (C : lz_C p s m c D cA cM b L xs) (d0 : decode code pc = .ok (.lcmp, 1)) (d : decode code (pc + 1) = .ok (.ifCond .eq off, 3)) (ht : ((pc + 1 : Nat) : Int) + off = ((1282 : Nat) : Int)) (h : lz_W p l e s m below meth c D cA cM q qM b Q g 1282 i [] S S') : lz_W p l e s m below meth c D cA cM q qM b Q g pc i [.long x, .long x] S S' := by
  intro H locs ls hP hD hS hl
  refine W.lcmp C.1 C.2.1 d0 ?_
  have e : lg_cmp x x = 0 := by
    unfold lg_cmp
    rw [if_neg (by exact Int64.lt_irrefl), if_pos rfl]
  rw [e]
  exact lv_if_eq C.1 C.2.1 d ht (fun _ => h H locs ls hP hD hS hl) (fun z => absurd rfl z)
theorem lz_next {i : Nat} (C : lz_C p s m c D cA cM b L xs) (d0 : decode code 1282 = .ok (.iinc 3 6, 3)) (d : decode code 1285 = .ok (.goto (-1267), 3)) (h : lz_W p l e s m below meth c D cA cM q qM b Q g 18 (nI (i + 6)) [] S S') : lz_W p l e s m below meth c D cA cM q qM b Q g 1282 (nI i) [] S S' := by
  intro H locs ls hP hD hS hl
  refine lv_iinc C.1 C.2.1 (lv' := [(3, .int (nI (i + 6))), (2, .ref (qM 0)), (1, .ref (q 0)), (0, .ref b)]) (v := nI (i + 6)) d0 hl (k := 0) rfl (by rw [show Int32.ofInt 6 = nI 6 from rfl, lz_add]) (by decide) rfl (fun ls hl => ?_)
  exact lv_goto C.1 C.2.1 (tgt := 18) d (by decide) (h H locs ls hP hD hS hl)
end LAW
