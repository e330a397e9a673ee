/-! constructors -/
theorem zi_add {x : Int32} : x + Int32.ofInt 1 = x + 1 := rfl
theorem z_Asub {A : Nat → Prop} {ws : va_W} {H0 H : Heap} {locs : List Loc} (hD : va_D A ws) (hS : va_S A H0 H locs) (hA : ∀ x, H0.size ≤ x → A x) : ∀ x, va_A ws H.size x → A x := by
  intro x hx
  rcases hx with ⟨k, e1, hk⟩ | hx
  · exact hD.2 k _ hk
  · exact hA x (Nat.le_trans hS.1 hx)
set_option maxHeartbeats 4000000 in
set_option maxRecDepth 100000 in
theorem in_X4_init (l : Launch) (D : va_G) (h0 : Nat) (v : Int32) (ex : va_W) (sz : Nat) : Met l yX4_init (Cond.code yX4_init cX4_init 2 none :: lw_g) ({ frames := 1, cells := 0, slots := 0, locals := 12 } : Room) (va_Pc [.ref h0, .int v] (fun U => U.heap.size = sz ∧ va_P D z_cl ((h0, .inr (3, [.int 0])) :: ex) U.heap ∧ va_K D z_cl [] U ∧ va_D (fun _ => True) ((h0, .inr (3, [.int 0])) :: ex))) (va_Qv (fun _ : Unit => True) (fun _ t => va_P D z_cl ((h0, .inr (3, [.int v])) :: ex) t.heap ∧ va_K D z_cl [] t ∧ va_D (va_A ((h0, .inr (3, [.int 0])) :: ex) sz) ((h0, .inr (3, [.int v])) :: ex)) (va_A ((h0, .inr (3, [.int 0])) :: ex) sz)) 0 0 (va_A ((h0, .inr (3, [.int 0])) :: ex) sz) := by
  refine Met.ofW (cc := cX4_init) (maxL := 2) (ret := none) (by decide +kernel) rfl ?_
  intro p e s m args below meth c s₁ B hml hv
  obtain ⟨rfl, hsz, hP, hK, hD0⟩ := hv
  have hx := B.exec
  have hb := B.bytes
  have hr := B.returns
  have hlocks := B.notSynchronized
  have hg : ∀ w ∈ lw_g, w.before _ s = true := fun w hw => atoms_spec (ws := Cond.code yX4_init cX4_init 2 none :: lw_g) B.pre w (List.mem_cons_of_mem _ hw)
  have hown : s.vm.findClass RX4 = some m.cls := findClass_of_methodNamed B.named
  have hin : meth.name = "<init>" := (name_of_methodNamed B.named B.method).1
  subst hsz
  have hK0 := hK
  have hD := hD0.self (sz := s.heap.size)
  generalize hAe : va_A ((h0, .inr (3, [.int 0])) :: ex) s.heap.size = A at hD ⊢
  have hA : ∀ q : Nat, s.heap.size ≤ q → A q := fun q h => by rw [← hAe]; exact Or.inr h
  have hS : va_S A s.heap s.heap [] := va_S.rf
  have hP : va_P D z_cl ((h0, .inr (3, [.int 0])) :: ex) s.heap := hP
  have hl := lv_entry ([.ref h0, .int v]) (n := 2) (Nat.le_of_ble_eq_true rfl)
  rw [lg_entry_eq]
  generalize (lg_sl ([.ref h0, .int v]) ++ List.replicate (2 - (lg_sl ([.ref h0, .int v])).length) Slot.unset).toArray = ls at hl ⊢
  have hl : lv_has ls 2 [(0, .ref h0), (1, .int v)] := hl
  refine lv_aload_n hx hb dX4_init_0 rfl (lv_at hl 0 rfl) ?_
  refine W.objInit hx hb hown (hg _ (z_g 545 (by decide +kernel) rfl)) (hg _ (z_g 62 (by decide +kernel) rfl)) (hg _ (z_g 63 (by decide +kernel) rfl)) rfl (by rw [hml]; exact hl.1) rfl dX4_init_1 (Nat.le_of_ble_eq_true rfl) (Nat.le_of_ble_eq_true rfl) ?_
  refine W.eq (g2 := F0 m 4 ls []) rfl ?_
  refine lv_aload_n hx hb dX4_init_4 rfl (lv_at hl 0 rfl) ?_
  refine lv_iload_n hx hb dX4_init_5 rfl (lv_at hl 1 rfl) ?_
  refine va_put (ci := 3) (v := .int v) (ty := .int) (C := RX4) (T := TX4) (N := 1) hx hb hg z_inX4 tyX4 tyX4_ok nmX4 hown hK hP hD hS 0 rfl rfl 0 (by decide) (hg _ (z_g 546 (by decide +kernel) rfl)) (fun _ h9 => h9) rfl (by decide +kernel) rfl rfl (Nat.le_of_ble_eq_true rfl) dX4_init_6 (fun H locs hP hD hS => ?_)
  have hP : va_P D z_cl ((h0, .inr (3, [.int v])) :: ex) H := hP
  have hD : va_D A ((h0, .inr (3, [.int v])) :: ex) := hD
  exact W.vret hx hb hr (fun t ht hW => ⟨⟨(), rfl, trivial, by rw [ht]; exact hP, va_K.moved hW.alike (hK.sub [] rfl), hD⟩, hS.F ht⟩) hS.2.2 dX4_init_9
set_option maxHeartbeats 4000000 in
set_option maxRecDepth 100000 in
theorem in_X6_init (l : Launch) (D : va_G) (h0 : Nat)  (ex : va_W) (sz : Nat) : Met l yX6_init (Cond.code yX6_init cX6_init 1 none :: lw_g) ({ frames := 1, cells := 1, slots := 48, locals := 12 } : Room) (va_Pc [.ref h0] (fun U => U.heap.size = sz ∧ va_P D z_cl ((h0, .inr (5, [.null, .int 0, .int 0])) :: ex) U.heap ∧ va_K D z_cl [] U ∧ va_D (fun _ => True) ((h0, .inr (5, [.null, .int 0, .int 0])) :: ex))) (va_Qv (fun _ : Unit => True) (fun _ t => ∃ (q7 : Nat) (c7 : ClassId), va_P D z_cl (((h0, .inr (5, [.ref q7, .int 0, .int (-1)])) :: ex) ++ [(q7, .inl (c7, (48, .inl (fun _ => 0))))]) t.heap ∧ va_K D z_cl [(c7, .int)] t ∧ va_D (va_A ((h0, .inr (5, [.null, .int 0, .int 0])) :: ex) sz) (((h0, .inr (5, [.ref q7, .int 0, .int (-1)])) :: ex) ++ [(q7, .inl (c7, (48, .inl (fun _ => 0))))])) (va_A ((h0, .inr (5, [.null, .int 0, .int 0])) :: ex) sz)) 1 48 (va_A ((h0, .inr (5, [.null, .int 0, .int 0])) :: ex) sz) := by
  refine Met.ofW (cc := cX6_init) (maxL := 1) (ret := none) (by decide +kernel) rfl ?_
  intro p e s m args below meth c s₁ B hml hv
  obtain ⟨rfl, hsz, hP, hK, hD0⟩ := hv
  have hx := B.exec
  have hb := B.bytes
  have hr := B.returns
  have hlocks := B.notSynchronized
  have hg : ∀ w ∈ lw_g, w.before _ s = true := fun w hw => atoms_spec (ws := Cond.code yX6_init cX6_init 1 none :: lw_g) B.pre w (List.mem_cons_of_mem _ hw)
  have hown : s.vm.findClass RX6 = some m.cls := findClass_of_methodNamed B.named
  have hin : meth.name = "<init>" := (name_of_methodNamed B.named B.method).1
  subst hsz
  have hK0 := hK
  have hD := hD0.self (sz := s.heap.size)
  generalize hAe : va_A ((h0, .inr (5, [.null, .int 0, .int 0])) :: ex) s.heap.size = A at hD ⊢
  have hA : ∀ q : Nat, s.heap.size ≤ q → A q := fun q h => by rw [← hAe]; exact Or.inr h
  have hS : va_S A s.heap s.heap [] := va_S.rf
  have hP : va_P D z_cl ((h0, .inr (5, [.null, .int 0, .int 0])) :: ex) s.heap := hP
  have hl := lv_entry ([.ref h0]) (n := 1) (Nat.le_of_ble_eq_true rfl)
  rw [lg_entry_eq]
  generalize (lg_sl ([.ref h0]) ++ List.replicate (1 - (lg_sl ([.ref h0])).length) Slot.unset).toArray = ls at hl ⊢
  have hl : lv_has ls 1 [(0, .ref h0)] := hl
  refine lv_aload_n hx hb dX6_init_0 rfl (lv_at hl 0 rfl) ?_
  refine W.objInit hx hb hown (hg _ (z_g 157 (by decide +kernel) rfl)) (hg _ (z_g 62 (by decide +kernel) rfl)) (hg _ (z_g 63 (by decide +kernel) rfl)) rfl (by rw [hml]; exact hl.1) rfl dX6_init_1 (Nat.le_of_ble_eq_true rfl) (Nat.le_of_ble_eq_true rfl) ?_
  refine W.eq (g2 := F0 m 4 ls []) rfl ?_
  refine lv_aload_n hx hb dX6_init_4 rfl (lv_at hl 0 rfl) ?_
  refine lv_bipush hx hb (v := 48) dX6_init_5 zb_48 ?_
  refine va_newa (atype := .int) hx hb (hg _ (z_g 98 (by decide +kernel) rfl)) rfl hK hP hD hS hA (n := 48) (N' := 48) (a0 := (48, .inl (fun _ => 0))) (fun cA => by first | rfl | exact vp_cell_i | exact vp_cell_l) (by decide) (by decide) (by decide) (Nat.le_of_ble_eq_true rfl) (Nat.le_of_ble_eq_true rfl) dX6_init_7 (fun q7 c7 H hK hP hD hS => ?_)
  have hP : va_P D z_cl (((h0, .inr (5, [.null, .int 0, .int 0])) :: ex) ++ [(q7, .inl (c7, (48, .inl (fun _ => 0))))]) H := hP
  have hD : va_D A (((h0, .inr (5, [.null, .int 0, .int 0])) :: ex) ++ [(q7, .inl (c7, (48, .inl (fun _ => 0))))]) := hD
  refine va_putF (ci := 5) (v := .ref q7) (ty := .array .int) (C := RX6) (T := TX6) (N := 3) hx hb hg z_inX6 tyX6 tyX6_ok nmX6 hown hK hP hD hS 0 rfl rfl 0 (by decide) (hg _ (z_g 158 (by decide +kernel) rfl)) (fun _ h9 => h9) rfl hin rfl (by decide +kernel) rfl rfl (Nat.le_of_ble_eq_true rfl) dX6_init_9 (fun H locs hP hD hS => ?_)
  have hP : va_P D z_cl (((h0, .inr (5, [.ref q7, .int 0, .int 0])) :: ex) ++ [(q7, .inl (c7, (48, .inl (fun _ => 0))))]) H := hP
  have hD : va_D A (((h0, .inr (5, [.ref q7, .int 0, .int 0])) :: ex) ++ [(q7, .inl (c7, (48, .inl (fun _ => 0))))]) := hD
  refine lv_aload_n hx hb dX6_init_12 rfl (lv_at hl 0 rfl) ?_
  refine lv_iconst hx hb (v := 0) dX6_init_13 zi_0 ?_
  refine va_put (ci := 5) (v := .int 0) (ty := .int) (C := RX6) (T := TX6) (N := 3) hx hb hg z_inX6 tyX6 tyX6_ok nmX6 hown hK hP hD hS 0 rfl rfl 1 (by decide) (hg _ (z_g 159 (by decide +kernel) rfl)) (fun _ h9 => h9) rfl (by decide +kernel) rfl rfl (Nat.le_of_ble_eq_true rfl) dX6_init_14 (fun H locs hP hD hS => ?_)
  have hP : va_P D z_cl (((h0, .inr (5, [.ref q7, .int 0, .int 0])) :: ex) ++ [(q7, .inl (c7, (48, .inl (fun _ => 0))))]) H := hP
  have hD : va_D A (((h0, .inr (5, [.ref q7, .int 0, .int 0])) :: ex) ++ [(q7, .inl (c7, (48, .inl (fun _ => 0))))]) := hD
  refine lv_aload_n hx hb dX6_init_17 rfl (lv_at hl 0 rfl) ?_
  refine lv_iconst hx hb (v := (-1)) dX6_init_18 zi_m1 ?_
  refine va_put (ci := 5) (v := .int (-1)) (ty := .int) (C := RX6) (T := TX6) (N := 3) hx hb hg z_inX6 tyX6 tyX6_ok nmX6 hown hK hP hD hS 0 rfl rfl 2 (by decide) (hg _ (z_g 160 (by decide +kernel) rfl)) (fun _ h9 => h9) rfl (by decide +kernel) rfl rfl (Nat.le_of_ble_eq_true rfl) dX6_init_19 (fun H locs hP hD hS => ?_)
  have hP : va_P D z_cl (((h0, .inr (5, [.ref q7, .int 0, .int (-1)])) :: ex) ++ [(q7, .inl (c7, (48, .inl (fun _ => 0))))]) H := hP
  have hD : va_D A (((h0, .inr (5, [.ref q7, .int 0, .int (-1)])) :: ex) ++ [(q7, .inl (c7, (48, .inl (fun _ => 0))))]) := hD
  exact W.vret hx hb hr (fun t ht hW => ⟨⟨(), rfl, trivial, q7, c7, by rw [ht]; exact hP, va_K.moved hW.alike (hK.sub [0] rfl), hD⟩, hS.F ht⟩) hS.2.2 dX6_init_22
set_option maxHeartbeats 4000000 in
set_option maxRecDepth 100000 in
theorem in_X1_init (l : Launch) (D : va_G) (h0 : Nat)  (ex : va_W) (sz : Nat) : Met l yX1_init (Cond.code yX1_init cX1_init 1 none :: lw_g) ({ frames := 1, cells := 1, slots := 9, locals := 12 } : Room) (va_Pc [.ref h0] (fun U => U.heap.size = sz ∧ va_P D z_cl ((h0, .inr (1, [.null, .int 0, .int 0])) :: ex) U.heap ∧ va_K D z_cl [] U ∧ va_D (fun _ => True) ((h0, .inr (1, [.null, .int 0, .int 0])) :: ex))) (va_Qv (fun _ : Unit => True) (fun _ t => ∃ (q7 : Nat) (c7 : ClassId), va_P D z_cl (((h0, .inr (1, [.ref q7, .int 0, .int 0])) :: ex) ++ [(q7, .inl (c7, (9, .inl (fun _ => 0))))]) t.heap ∧ va_K D z_cl [(c7, .int)] t ∧ va_D (va_A ((h0, .inr (1, [.null, .int 0, .int 0])) :: ex) sz) (((h0, .inr (1, [.ref q7, .int 0, .int 0])) :: ex) ++ [(q7, .inl (c7, (9, .inl (fun _ => 0))))])) (va_A ((h0, .inr (1, [.null, .int 0, .int 0])) :: ex) sz)) 1 9 (va_A ((h0, .inr (1, [.null, .int 0, .int 0])) :: ex) sz) := by
  refine Met.ofW (cc := cX1_init) (maxL := 1) (ret := none) (by decide +kernel) rfl ?_
  intro p e s m args below meth c s₁ B hml hv
  obtain ⟨rfl, hsz, hP, hK, hD0⟩ := hv
  have hx := B.exec
  have hb := B.bytes
  have hr := B.returns
  have hlocks := B.notSynchronized
  have hg : ∀ w ∈ lw_g, w.before _ s = true := fun w hw => atoms_spec (ws := Cond.code yX1_init cX1_init 1 none :: lw_g) B.pre w (List.mem_cons_of_mem _ hw)
  have hown : s.vm.findClass RX1 = some m.cls := findClass_of_methodNamed B.named
  have hin : meth.name = "<init>" := (name_of_methodNamed B.named B.method).1
  subst hsz
  have hK0 := hK
  have hD := hD0.self (sz := s.heap.size)
  generalize hAe : va_A ((h0, .inr (1, [.null, .int 0, .int 0])) :: ex) s.heap.size = A at hD ⊢
  have hA : ∀ q : Nat, s.heap.size ≤ q → A q := fun q h => by rw [← hAe]; exact Or.inr h
  have hS : va_S A s.heap s.heap [] := va_S.rf
  have hP : va_P D z_cl ((h0, .inr (1, [.null, .int 0, .int 0])) :: ex) s.heap := hP
  have hl := lv_entry ([.ref h0]) (n := 1) (Nat.le_of_ble_eq_true rfl)
  rw [lg_entry_eq]
  generalize (lg_sl ([.ref h0]) ++ List.replicate (1 - (lg_sl ([.ref h0])).length) Slot.unset).toArray = ls at hl ⊢
  have hl : lv_has ls 1 [(0, .ref h0)] := hl
  refine lv_aload_n hx hb dX1_init_0 rfl (lv_at hl 0 rfl) ?_
  refine W.objInit hx hb hown (hg _ (z_g 121 (by decide +kernel) rfl)) (hg _ (z_g 62 (by decide +kernel) rfl)) (hg _ (z_g 63 (by decide +kernel) rfl)) rfl (by rw [hml]; exact hl.1) rfl dX1_init_1 (Nat.le_of_ble_eq_true rfl) (Nat.le_of_ble_eq_true rfl) ?_
  refine W.eq (g2 := F0 m 4 ls []) rfl ?_
  refine lv_aload_n hx hb dX1_init_4 rfl (lv_at hl 0 rfl) ?_
  refine lv_bipush hx hb (v := 9) dX1_init_5 zb_9 ?_
  refine va_newa (atype := .int) hx hb (hg _ (z_g 98 (by decide +kernel) rfl)) rfl hK hP hD hS hA (n := 9) (N' := 9) (a0 := (9, .inl (fun _ => 0))) (fun cA => by first | rfl | exact vp_cell_i | exact vp_cell_l) (by decide) (by decide) (by decide) (Nat.le_of_ble_eq_true rfl) (Nat.le_of_ble_eq_true rfl) dX1_init_7 (fun q7 c7 H hK hP hD hS => ?_)
  have hP : va_P D z_cl (((h0, .inr (1, [.null, .int 0, .int 0])) :: ex) ++ [(q7, .inl (c7, (9, .inl (fun _ => 0))))]) H := hP
  have hD : va_D A (((h0, .inr (1, [.null, .int 0, .int 0])) :: ex) ++ [(q7, .inl (c7, (9, .inl (fun _ => 0))))]) := hD
  refine va_putF (ci := 1) (v := .ref q7) (ty := .array .int) (C := RX1) (T := TX1) (N := 3) hx hb hg z_inX1 tyX1 tyX1_ok nmX1 hown hK hP hD hS 0 rfl rfl 0 (by decide) (hg _ (z_g 122 (by decide +kernel) rfl)) (fun _ h9 => h9) rfl hin rfl (by decide +kernel) rfl rfl (Nat.le_of_ble_eq_true rfl) dX1_init_9 (fun H locs hP hD hS => ?_)
  have hP : va_P D z_cl (((h0, .inr (1, [.ref q7, .int 0, .int 0])) :: ex) ++ [(q7, .inl (c7, (9, .inl (fun _ => 0))))]) H := hP
  have hD : va_D A (((h0, .inr (1, [.ref q7, .int 0, .int 0])) :: ex) ++ [(q7, .inl (c7, (9, .inl (fun _ => 0))))]) := hD
  refine lv_aload_n hx hb dX1_init_12 rfl (lv_at hl 0 rfl) ?_
  refine lv_iconst hx hb (v := 0) dX1_init_13 zi_0 ?_
  refine va_put (ci := 1) (v := .int 0) (ty := .int) (C := RX1) (T := TX1) (N := 3) hx hb hg z_inX1 tyX1 tyX1_ok nmX1 hown hK hP hD hS 0 rfl rfl 1 (by decide) (hg _ (z_g 123 (by decide +kernel) rfl)) (fun _ h9 => h9) rfl (by decide +kernel) rfl rfl (Nat.le_of_ble_eq_true rfl) dX1_init_14 (fun H locs hP hD hS => ?_)
  have hP : va_P D z_cl (((h0, .inr (1, [.ref q7, .int 0, .int 0])) :: ex) ++ [(q7, .inl (c7, (9, .inl (fun _ => 0))))]) H := hP
  have hD : va_D A (((h0, .inr (1, [.ref q7, .int 0, .int 0])) :: ex) ++ [(q7, .inl (c7, (9, .inl (fun _ => 0))))]) := hD
  refine lv_aload_n hx hb dX1_init_17 rfl (lv_at hl 0 rfl) ?_
  refine lv_iconst hx hb (v := 0) dX1_init_18 zi_0 ?_
  refine va_put (ci := 1) (v := .int 0) (ty := .int) (C := RX1) (T := TX1) (N := 3) hx hb hg z_inX1 tyX1 tyX1_ok nmX1 hown hK hP hD hS 0 rfl rfl 2 (by decide) (hg _ (z_g 124 (by decide +kernel) rfl)) (fun _ h9 => h9) rfl (by decide +kernel) rfl rfl (Nat.le_of_ble_eq_true rfl) dX1_init_19 (fun H locs hP hD hS => ?_)
  have hP : va_P D z_cl (((h0, .inr (1, [.ref q7, .int 0, .int 0])) :: ex) ++ [(q7, .inl (c7, (9, .inl (fun _ => 0))))]) H := hP
  have hD : va_D A (((h0, .inr (1, [.ref q7, .int 0, .int 0])) :: ex) ++ [(q7, .inl (c7, (9, .inl (fun _ => 0))))]) := hD
  exact W.vret hx hb hr (fun t ht hW => ⟨⟨(), rfl, trivial, q7, c7, by rw [ht]; exact hP, va_K.moved hW.alike (hK.sub [0] rfl), hD⟩, hS.F ht⟩) hS.2.2 dX1_init_22
set_option maxHeartbeats 4000000 in
set_option maxRecDepth 100000 in
theorem in_X5_init (l : Launch) (D : va_G) (h0 : Nat)  (ex : va_W) (sz : Nat) : Met l yX5_init (Cond.code yX5_init cX5_init 1 none :: lw_g) ({ frames := 1, cells := 3, slots := 24, locals := 12 } : Room) (va_Pc [.ref h0] (fun U => U.heap.size = sz ∧ va_P D z_cl ((h0, .inr (4, [.null, .null, .null, .int 0])) :: ex) U.heap ∧ va_K D z_cl [] U ∧ va_D (fun _ => True) ((h0, .inr (4, [.null, .null, .null, .int 0])) :: ex))) (va_Qv (fun _ : Unit => True) (fun _ t => ∃ (q7 q15 q23 : Nat) (c7 c15 c23 : ClassId), va_P D z_cl (((((h0, .inr (4, [.ref q7, .ref q15, .ref q23, .int 0])) :: ex) ++ [(q7, .inl (c7, (8, .inl (fun _ => 0))))]) ++ [(q15, .inl (c15, (8, .inl (fun _ => 0))))]) ++ [(q23, .inl (c23, (8, .inl (fun _ => 0))))]) t.heap ∧ va_K D z_cl [(c7, .int), (c15, .int), (c23, .int)] t ∧ va_D (va_A ((h0, .inr (4, [.null, .null, .null, .int 0])) :: ex) sz) (((((h0, .inr (4, [.ref q7, .ref q15, .ref q23, .int 0])) :: ex) ++ [(q7, .inl (c7, (8, .inl (fun _ => 0))))]) ++ [(q15, .inl (c15, (8, .inl (fun _ => 0))))]) ++ [(q23, .inl (c23, (8, .inl (fun _ => 0))))])) (va_A ((h0, .inr (4, [.null, .null, .null, .int 0])) :: ex) sz)) 3 24 (va_A ((h0, .inr (4, [.null, .null, .null, .int 0])) :: ex) sz) := by
  refine Met.ofW (cc := cX5_init) (maxL := 1) (ret := none) (by decide +kernel) rfl ?_
  intro p e s m args below meth c s₁ B hml hv
  obtain ⟨rfl, hsz, hP, hK, hD0⟩ := hv
  have hx := B.exec
  have hb := B.bytes
  have hr := B.returns
  have hlocks := B.notSynchronized
  have hg : ∀ w ∈ lw_g, w.before _ s = true := fun w hw => atoms_spec (ws := Cond.code yX5_init cX5_init 1 none :: lw_g) B.pre w (List.mem_cons_of_mem _ hw)
  have hown : s.vm.findClass RX5 = some m.cls := findClass_of_methodNamed B.named
  have hin : meth.name = "<init>" := (name_of_methodNamed B.named B.method).1
  subst hsz
  have hK0 := hK
  have hD := hD0.self (sz := s.heap.size)
  generalize hAe : va_A ((h0, .inr (4, [.null, .null, .null, .int 0])) :: ex) s.heap.size = A at hD ⊢
  have hA : ∀ q : Nat, s.heap.size ≤ q → A q := fun q h => by rw [← hAe]; exact Or.inr h
  have hS : va_S A s.heap s.heap [] := va_S.rf
  have hP : va_P D z_cl ((h0, .inr (4, [.null, .null, .null, .int 0])) :: ex) s.heap := hP
  have hl := lv_entry ([.ref h0]) (n := 1) (Nat.le_of_ble_eq_true rfl)
  rw [lg_entry_eq]
  generalize (lg_sl ([.ref h0]) ++ List.replicate (1 - (lg_sl ([.ref h0])).length) Slot.unset).toArray = ls at hl ⊢
  have hl : lv_has ls 1 [(0, .ref h0)] := hl
  refine lv_aload_n hx hb dX5_init_0 rfl (lv_at hl 0 rfl) ?_
  refine W.objInit hx hb hown (hg _ (z_g 137 (by decide +kernel) rfl)) (hg _ (z_g 62 (by decide +kernel) rfl)) (hg _ (z_g 63 (by decide +kernel) rfl)) rfl (by rw [hml]; exact hl.1) rfl dX5_init_1 (Nat.le_of_ble_eq_true rfl) (Nat.le_of_ble_eq_true rfl) ?_
  refine W.eq (g2 := F0 m 4 ls []) rfl ?_
  refine lv_aload_n hx hb dX5_init_4 rfl (lv_at hl 0 rfl) ?_
  refine lv_bipush hx hb (v := 8) dX5_init_5 zb_8 ?_
  refine va_newa (atype := .int) hx hb (hg _ (z_g 98 (by decide +kernel) rfl)) rfl hK hP hD hS hA (n := 8) (N' := 8) (a0 := (8, .inl (fun _ => 0))) (fun cA => by first | rfl | exact vp_cell_i | exact vp_cell_l) (by decide) (by decide) (by decide) (Nat.le_of_ble_eq_true rfl) (Nat.le_of_ble_eq_true rfl) dX5_init_7 (fun q7 c7 H hK hP hD hS => ?_)
  have hP : va_P D z_cl (((h0, .inr (4, [.null, .null, .null, .int 0])) :: ex) ++ [(q7, .inl (c7, (8, .inl (fun _ => 0))))]) H := hP
  have hD : va_D A (((h0, .inr (4, [.null, .null, .null, .int 0])) :: ex) ++ [(q7, .inl (c7, (8, .inl (fun _ => 0))))]) := hD
  refine va_putF (ci := 4) (v := .ref q7) (ty := .array .int) (C := RX5) (T := TX5) (N := 4) hx hb hg z_inX5 tyX5 tyX5_ok nmX5 hown hK hP hD hS 0 rfl rfl 0 (by decide) (hg _ (z_g 138 (by decide +kernel) rfl)) (fun _ h9 => h9) rfl hin rfl (by decide +kernel) rfl rfl (Nat.le_of_ble_eq_true rfl) dX5_init_9 (fun H locs hP hD hS => ?_)
  have hP : va_P D z_cl (((h0, .inr (4, [.ref q7, .null, .null, .int 0])) :: ex) ++ [(q7, .inl (c7, (8, .inl (fun _ => 0))))]) H := hP
  have hD : va_D A (((h0, .inr (4, [.ref q7, .null, .null, .int 0])) :: ex) ++ [(q7, .inl (c7, (8, .inl (fun _ => 0))))]) := hD
  refine lv_aload_n hx hb dX5_init_12 rfl (lv_at hl 0 rfl) ?_
  refine lv_bipush hx hb (v := 8) dX5_init_13 zb_8 ?_
  refine va_newa (atype := .int) hx hb (hg _ (z_g 98 (by decide +kernel) rfl)) rfl hK hP hD hS hA (n := 8) (N' := 8) (a0 := (8, .inl (fun _ => 0))) (fun cA => by first | rfl | exact vp_cell_i | exact vp_cell_l) (by decide) (by decide) (by decide) (Nat.le_of_ble_eq_true rfl) (Nat.le_of_ble_eq_true rfl) dX5_init_15 (fun q15 c15 H hK hP hD hS => ?_)
  have hP : va_P D z_cl ((((h0, .inr (4, [.ref q7, .null, .null, .int 0])) :: ex) ++ [(q7, .inl (c7, (8, .inl (fun _ => 0))))]) ++ [(q15, .inl (c15, (8, .inl (fun _ => 0))))]) H := hP
  have hD : va_D A ((((h0, .inr (4, [.ref q7, .null, .null, .int 0])) :: ex) ++ [(q7, .inl (c7, (8, .inl (fun _ => 0))))]) ++ [(q15, .inl (c15, (8, .inl (fun _ => 0))))]) := hD
  refine va_putF (ci := 4) (v := .ref q15) (ty := .array .int) (C := RX5) (T := TX5) (N := 4) hx hb hg z_inX5 tyX5 tyX5_ok nmX5 hown hK hP hD hS 0 rfl rfl 1 (by decide) (hg _ (z_g 139 (by decide +kernel) rfl)) (fun _ h9 => h9) rfl hin rfl (by decide +kernel) rfl rfl (Nat.le_of_ble_eq_true rfl) dX5_init_17 (fun H locs hP hD hS => ?_)
  have hP : va_P D z_cl ((((h0, .inr (4, [.ref q7, .ref q15, .null, .int 0])) :: ex) ++ [(q7, .inl (c7, (8, .inl (fun _ => 0))))]) ++ [(q15, .inl (c15, (8, .inl (fun _ => 0))))]) H := hP
  have hD : va_D A ((((h0, .inr (4, [.ref q7, .ref q15, .null, .int 0])) :: ex) ++ [(q7, .inl (c7, (8, .inl (fun _ => 0))))]) ++ [(q15, .inl (c15, (8, .inl (fun _ => 0))))]) := hD
  refine lv_aload_n hx hb dX5_init_20 rfl (lv_at hl 0 rfl) ?_
  refine lv_bipush hx hb (v := 8) dX5_init_21 zb_8 ?_
  refine va_newa (atype := .int) hx hb (hg _ (z_g 98 (by decide +kernel) rfl)) rfl hK hP hD hS hA (n := 8) (N' := 8) (a0 := (8, .inl (fun _ => 0))) (fun cA => by first | rfl | exact vp_cell_i | exact vp_cell_l) (by decide) (by decide) (by decide) (Nat.le_of_ble_eq_true rfl) (Nat.le_of_ble_eq_true rfl) dX5_init_23 (fun q23 c23 H hK hP hD hS => ?_)
  have hP : va_P D z_cl (((((h0, .inr (4, [.ref q7, .ref q15, .null, .int 0])) :: ex) ++ [(q7, .inl (c7, (8, .inl (fun _ => 0))))]) ++ [(q15, .inl (c15, (8, .inl (fun _ => 0))))]) ++ [(q23, .inl (c23, (8, .inl (fun _ => 0))))]) H := hP
  have hD : va_D A (((((h0, .inr (4, [.ref q7, .ref q15, .null, .int 0])) :: ex) ++ [(q7, .inl (c7, (8, .inl (fun _ => 0))))]) ++ [(q15, .inl (c15, (8, .inl (fun _ => 0))))]) ++ [(q23, .inl (c23, (8, .inl (fun _ => 0))))]) := hD
  refine va_putF (ci := 4) (v := .ref q23) (ty := .array .int) (C := RX5) (T := TX5) (N := 4) hx hb hg z_inX5 tyX5 tyX5_ok nmX5 hown hK hP hD hS 0 rfl rfl 2 (by decide) (hg _ (z_g 140 (by decide +kernel) rfl)) (fun _ h9 => h9) rfl hin rfl (by decide +kernel) rfl rfl (Nat.le_of_ble_eq_true rfl) dX5_init_25 (fun H locs hP hD hS => ?_)
  have hP : va_P D z_cl (((((h0, .inr (4, [.ref q7, .ref q15, .ref q23, .int 0])) :: ex) ++ [(q7, .inl (c7, (8, .inl (fun _ => 0))))]) ++ [(q15, .inl (c15, (8, .inl (fun _ => 0))))]) ++ [(q23, .inl (c23, (8, .inl (fun _ => 0))))]) H := hP
  have hD : va_D A (((((h0, .inr (4, [.ref q7, .ref q15, .ref q23, .int 0])) :: ex) ++ [(q7, .inl (c7, (8, .inl (fun _ => 0))))]) ++ [(q15, .inl (c15, (8, .inl (fun _ => 0))))]) ++ [(q23, .inl (c23, (8, .inl (fun _ => 0))))]) := hD
  refine lv_aload_n hx hb dX5_init_28 rfl (lv_at hl 0 rfl) ?_
  refine lv_iconst hx hb (v := 0) dX5_init_29 zi_0 ?_
  refine va_put (ci := 4) (v := .int 0) (ty := .int) (C := RX5) (T := TX5) (N := 4) hx hb hg z_inX5 tyX5 tyX5_ok nmX5 hown hK hP hD hS 0 rfl rfl 3 (by decide) (hg _ (z_g 141 (by decide +kernel) rfl)) (fun _ h9 => h9) rfl (by decide +kernel) rfl rfl (Nat.le_of_ble_eq_true rfl) dX5_init_30 (fun H locs hP hD hS => ?_)
  have hP : va_P D z_cl (((((h0, .inr (4, [.ref q7, .ref q15, .ref q23, .int 0])) :: ex) ++ [(q7, .inl (c7, (8, .inl (fun _ => 0))))]) ++ [(q15, .inl (c15, (8, .inl (fun _ => 0))))]) ++ [(q23, .inl (c23, (8, .inl (fun _ => 0))))]) H := hP
  have hD : va_D A (((((h0, .inr (4, [.ref q7, .ref q15, .ref q23, .int 0])) :: ex) ++ [(q7, .inl (c7, (8, .inl (fun _ => 0))))]) ++ [(q15, .inl (c15, (8, .inl (fun _ => 0))))]) ++ [(q23, .inl (c23, (8, .inl (fun _ => 0))))]) := hD
  exact W.vret hx hb hr (fun t ht hW => ⟨⟨(), rfl, trivial, q7, q15, q23, c7, c15, c23, by rw [ht]; exact hP, va_K.moved hW.alike (hK.sub [0, 1, 2] rfl), hD⟩, hS.F ht⟩) hS.2.2 dX5_init_33
set_option maxHeartbeats 4000000 in
set_option maxRecDepth 100000 in
theorem in_X2_init_X0 (l : Launch) (D : va_G) (h0 : Nat) (b0 : Nat) (ex : va_W) (sz : Nat) : Met l yX2_init (Cond.code yX2_init cX2_init 2 none :: lw_g) ({ frames := 1, cells := 0, slots := 0, locals := 12 } : Room) (va_Pc [.ref h0, .ref b0] (fun U => U.heap.size = sz ∧ va_P D z_cl ((h0, .inr (0, [.null, .int 0, .int 0, .int 0, .null, .null, .null, .null])) :: ex) U.heap ∧ va_K D z_cl [] U ∧ va_D (fun _ => True) ((h0, .inr (0, [.null, .int 0, .int 0, .int 0, .null, .null, .null, .null])) :: ex))) (va_Qv (fun _ : Unit => True) (fun _ t => va_P D z_cl ((h0, .inr (0, [.ref b0, .int 0, .int (-1), .int 0, .null, .null, .null, .null])) :: ex) t.heap ∧ va_K D z_cl [] t ∧ va_D (va_A ((h0, .inr (0, [.null, .int 0, .int 0, .int 0, .null, .null, .null, .null])) :: ex) sz) ((h0, .inr (0, [.ref b0, .int 0, .int (-1), .int 0, .null, .null, .null, .null])) :: ex)) (va_A ((h0, .inr (0, [.null, .int 0, .int 0, .int 0, .null, .null, .null, .null])) :: ex) sz)) 0 0 (va_A ((h0, .inr (0, [.null, .int 0, .int 0, .int 0, .null, .null, .null, .null])) :: ex) sz) := by
  refine Met.ofW (cc := cX2_init) (maxL := 2) (ret := none) (by decide +kernel) rfl ?_
  intro p e s m args below meth c s₁ B hml hv
  obtain ⟨rfl, hsz, hP, hK, hD0⟩ := hv
  have hx := B.exec
  have hb := B.bytes
  have hr := B.returns
  have hlocks := B.notSynchronized
  have hg : ∀ w ∈ lw_g, w.before _ s = true := fun w hw => atoms_spec (ws := Cond.code yX2_init cX2_init 2 none :: lw_g) B.pre w (List.mem_cons_of_mem _ hw)
  have hown : s.vm.findClass RX2 = some m.cls := findClass_of_methodNamed B.named
  have hin : meth.name = "<init>" := (name_of_methodNamed B.named B.method).1
  subst hsz
  have hK0 := hK
  have hD := hD0.self (sz := s.heap.size)
  generalize hAe : va_A ((h0, .inr (0, [.null, .int 0, .int 0, .int 0, .null, .null, .null, .null])) :: ex) s.heap.size = A at hD ⊢
  have hA : ∀ q : Nat, s.heap.size ≤ q → A q := fun q h => by rw [← hAe]; exact Or.inr h
  have hS : va_S A s.heap s.heap [] := va_S.rf
  have hP : va_P D z_cl ((h0, .inr (0, [.null, .int 0, .int 0, .int 0, .null, .null, .null, .null])) :: ex) s.heap := hP
  have hl := lv_entry ([.ref h0, .ref b0]) (n := 2) (Nat.le_of_ble_eq_true rfl)
  rw [lg_entry_eq]
  generalize (lg_sl ([.ref h0, .ref b0]) ++ List.replicate (2 - (lg_sl ([.ref h0, .ref b0])).length) Slot.unset).toArray = ls at hl ⊢
  have hl : lv_has ls 2 [(0, .ref h0), (1, .ref b0)] := hl
  refine lv_aload_n hx hb dX2_init_0 rfl (lv_at hl 0 rfl) ?_
  refine W.objInit hx hb hown (hg _ (z_g 72 (by decide +kernel) rfl)) (hg _ (z_g 62 (by decide +kernel) rfl)) (hg _ (z_g 63 (by decide +kernel) rfl)) rfl (by rw [hml]; exact hl.1) rfl dX2_init_1 (Nat.le_of_ble_eq_true rfl) (Nat.le_of_ble_eq_true rfl) ?_
  refine W.eq (g2 := F0 m 4 ls []) rfl ?_
  refine lv_aload_n hx hb dX2_init_4 rfl (lv_at hl 0 rfl) ?_
  refine lv_iconst hx hb (v := 0) dX2_init_5 zi_0 ?_
  refine va_put (ci := 0) (v := .int 0) (ty := .int) (C := RX0) (T := TX0) (N := 8) hx hb hg z_inX0 tyX0 tyX0_ok nmX0 hown hK hP hD hS 0 rfl rfl 1 (by decide) (hg _ (z_g 78 (by decide +kernel) rfl)) (fun _ h9 => h9) rfl (by decide +kernel) rfl rfl (Nat.le_of_ble_eq_true rfl) dX2_init_6 (fun H locs hP hD hS => ?_)
  have hP : va_P D z_cl ((h0, .inr (0, [.null, .int 0, .int 0, .int 0, .null, .null, .null, .null])) :: ex) H := hP
  have hD : va_D A ((h0, .inr (0, [.null, .int 0, .int 0, .int 0, .null, .null, .null, .null])) :: ex) := hD
  refine lv_aload_n hx hb dX2_init_9 rfl (lv_at hl 0 rfl) ?_
  refine lv_iconst hx hb (v := (-1)) dX2_init_10 zi_m1 ?_
  refine va_put (ci := 0) (v := .int (-1)) (ty := .int) (C := RX0) (T := TX0) (N := 8) hx hb hg z_inX0 tyX0 tyX0_ok nmX0 hown hK hP hD hS 0 rfl rfl 2 (by decide) (hg _ (z_g 79 (by decide +kernel) rfl)) (fun _ h9 => h9) rfl (by decide +kernel) rfl rfl (Nat.le_of_ble_eq_true rfl) dX2_init_11 (fun H locs hP hD hS => ?_)
  have hP : va_P D z_cl ((h0, .inr (0, [.null, .int 0, .int (-1), .int 0, .null, .null, .null, .null])) :: ex) H := hP
  have hD : va_D A ((h0, .inr (0, [.null, .int 0, .int (-1), .int 0, .null, .null, .null, .null])) :: ex) := hD
  refine lv_aload_n hx hb dX2_init_14 rfl (lv_at hl 0 rfl) ?_
  refine lv_iconst hx hb (v := 0) dX2_init_15 zi_0 ?_
  refine va_put (ci := 0) (v := .int 0) (ty := .int) (C := RX0) (T := TX0) (N := 8) hx hb hg z_inX0 tyX0 tyX0_ok nmX0 hown hK hP hD hS 0 rfl rfl 3 (by decide) (hg _ (z_g 80 (by decide +kernel) rfl)) (fun _ h9 => h9) rfl (by decide +kernel) rfl rfl (Nat.le_of_ble_eq_true rfl) dX2_init_16 (fun H locs hP hD hS => ?_)
  have hP : va_P D z_cl ((h0, .inr (0, [.null, .int 0, .int (-1), .int 0, .null, .null, .null, .null])) :: ex) H := hP
  have hD : va_D A ((h0, .inr (0, [.null, .int 0, .int (-1), .int 0, .null, .null, .null, .null])) :: ex) := hD
  refine lv_aload_n hx hb dX2_init_19 rfl (lv_at hl 0 rfl) ?_
  refine lv_aload_n hx hb dX2_init_20 rfl (lv_at hl 1 rfl) ?_
  refine va_putF (ci := 0) (v := .ref b0) (ty := .array .int) (C := RX0) (T := TX0) (N := 8) hx hb hg z_inX0 tyX0 tyX0_ok nmX0 hown hK hP hD hS 0 rfl rfl 0 (by decide) (hg _ (z_g 77 (by decide +kernel) rfl)) (fun _ h9 => h9) rfl hin rfl (by decide +kernel) rfl rfl (Nat.le_of_ble_eq_true rfl) dX2_init_21 (fun H locs hP hD hS => ?_)
  have hP : va_P D z_cl ((h0, .inr (0, [.ref b0, .int 0, .int (-1), .int 0, .null, .null, .null, .null])) :: ex) H := hP
  have hD : va_D A ((h0, .inr (0, [.ref b0, .int 0, .int (-1), .int 0, .null, .null, .null, .null])) :: ex) := hD
  exact W.vret hx hb hr (fun t ht hW => ⟨⟨(), rfl, trivial, by rw [ht]; exact hP, va_K.moved hW.alike (hK.sub [] rfl), hD⟩, hS.F ht⟩) hS.2.2 dX2_init_24
set_option maxHeartbeats 4000000 in
set_option maxRecDepth 100000 in
theorem in_X2_init_X3 (l : Launch) (D : va_G) (h0 : Nat) (b0 : Nat) (ex : va_W) (sz : Nat) : Met l yX2_init (Cond.code yX2_init cX2_init 2 none :: lw_g) ({ frames := 1, cells := 0, slots := 0, locals := 12 } : Room) (va_Pc [.ref h0, .ref b0] (fun U => U.heap.size = sz ∧ va_P D z_cl ((h0, .inr (2, [.null, .int 0, .int 0, .int 0, .null, .null])) :: ex) U.heap ∧ va_K D z_cl [] U ∧ va_D (fun _ => True) ((h0, .inr (2, [.null, .int 0, .int 0, .int 0, .null, .null])) :: ex))) (va_Qv (fun _ : Unit => True) (fun _ t => va_P D z_cl ((h0, .inr (2, [.ref b0, .int 0, .int (-1), .int 0, .null, .null])) :: ex) t.heap ∧ va_K D z_cl [] t ∧ va_D (va_A ((h0, .inr (2, [.null, .int 0, .int 0, .int 0, .null, .null])) :: ex) sz) ((h0, .inr (2, [.ref b0, .int 0, .int (-1), .int 0, .null, .null])) :: ex)) (va_A ((h0, .inr (2, [.null, .int 0, .int 0, .int 0, .null, .null])) :: ex) sz)) 0 0 (va_A ((h0, .inr (2, [.null, .int 0, .int 0, .int 0, .null, .null])) :: ex) sz) := by
  refine Met.ofW (cc := cX2_init) (maxL := 2) (ret := none) (by decide +kernel) rfl ?_
  intro p e s m args below meth c s₁ B hml hv
  obtain ⟨rfl, hsz, hP, hK, hD0⟩ := hv
  have hx := B.exec
  have hb := B.bytes
  have hr := B.returns
  have hlocks := B.notSynchronized
  have hg : ∀ w ∈ lw_g, w.before _ s = true := fun w hw => atoms_spec (ws := Cond.code yX2_init cX2_init 2 none :: lw_g) B.pre w (List.mem_cons_of_mem _ hw)
  have hown : s.vm.findClass RX2 = some m.cls := findClass_of_methodNamed B.named
  have hin : meth.name = "<init>" := (name_of_methodNamed B.named B.method).1
  subst hsz
  have hK0 := hK
  have hD := hD0.self (sz := s.heap.size)
  generalize hAe : va_A ((h0, .inr (2, [.null, .int 0, .int 0, .int 0, .null, .null])) :: ex) s.heap.size = A at hD ⊢
  have hA : ∀ q : Nat, s.heap.size ≤ q → A q := fun q h => by rw [← hAe]; exact Or.inr h
  have hS : va_S A s.heap s.heap [] := va_S.rf
  have hP : va_P D z_cl ((h0, .inr (2, [.null, .int 0, .int 0, .int 0, .null, .null])) :: ex) s.heap := hP
  have hl := lv_entry ([.ref h0, .ref b0]) (n := 2) (Nat.le_of_ble_eq_true rfl)
  rw [lg_entry_eq]
  generalize (lg_sl ([.ref h0, .ref b0]) ++ List.replicate (2 - (lg_sl ([.ref h0, .ref b0])).length) Slot.unset).toArray = ls at hl ⊢
  have hl : lv_has ls 2 [(0, .ref h0), (1, .ref b0)] := hl
  refine lv_aload_n hx hb dX2_init_0 rfl (lv_at hl 0 rfl) ?_
  refine W.objInit hx hb hown (hg _ (z_g 72 (by decide +kernel) rfl)) (hg _ (z_g 62 (by decide +kernel) rfl)) (hg _ (z_g 63 (by decide +kernel) rfl)) rfl (by rw [hml]; exact hl.1) rfl dX2_init_1 (Nat.le_of_ble_eq_true rfl) (Nat.le_of_ble_eq_true rfl) ?_
  refine W.eq (g2 := F0 m 4 ls []) rfl ?_
  refine lv_aload_n hx hb dX2_init_4 rfl (lv_at hl 0 rfl) ?_
  refine lv_iconst hx hb (v := 0) dX2_init_5 zi_0 ?_
  refine va_put (ci := 2) (v := .int 0) (ty := .int) (C := RX3) (T := TX3) (N := 6) hx hb hg z_inX3 tyX3 tyX3_ok nmX3 hown hK hP hD hS 0 rfl rfl 1 (by decide) (hg _ (z_g 78 (by decide +kernel) rfl)) (fun _ h9 => h9) rfl (by decide +kernel) rfl rfl (Nat.le_of_ble_eq_true rfl) dX2_init_6 (fun H locs hP hD hS => ?_)
  have hP : va_P D z_cl ((h0, .inr (2, [.null, .int 0, .int 0, .int 0, .null, .null])) :: ex) H := hP
  have hD : va_D A ((h0, .inr (2, [.null, .int 0, .int 0, .int 0, .null, .null])) :: ex) := hD
  refine lv_aload_n hx hb dX2_init_9 rfl (lv_at hl 0 rfl) ?_
  refine lv_iconst hx hb (v := (-1)) dX2_init_10 zi_m1 ?_
  refine va_put (ci := 2) (v := .int (-1)) (ty := .int) (C := RX3) (T := TX3) (N := 6) hx hb hg z_inX3 tyX3 tyX3_ok nmX3 hown hK hP hD hS 0 rfl rfl 2 (by decide) (hg _ (z_g 79 (by decide +kernel) rfl)) (fun _ h9 => h9) rfl (by decide +kernel) rfl rfl (Nat.le_of_ble_eq_true rfl) dX2_init_11 (fun H locs hP hD hS => ?_)
  have hP : va_P D z_cl ((h0, .inr (2, [.null, .int 0, .int (-1), .int 0, .null, .null])) :: ex) H := hP
  have hD : va_D A ((h0, .inr (2, [.null, .int 0, .int (-1), .int 0, .null, .null])) :: ex) := hD
  refine lv_aload_n hx hb dX2_init_14 rfl (lv_at hl 0 rfl) ?_
  refine lv_iconst hx hb (v := 0) dX2_init_15 zi_0 ?_
  refine va_put (ci := 2) (v := .int 0) (ty := .int) (C := RX3) (T := TX3) (N := 6) hx hb hg z_inX3 tyX3 tyX3_ok nmX3 hown hK hP hD hS 0 rfl rfl 3 (by decide) (hg _ (z_g 80 (by decide +kernel) rfl)) (fun _ h9 => h9) rfl (by decide +kernel) rfl rfl (Nat.le_of_ble_eq_true rfl) dX2_init_16 (fun H locs hP hD hS => ?_)
  have hP : va_P D z_cl ((h0, .inr (2, [.null, .int 0, .int (-1), .int 0, .null, .null])) :: ex) H := hP
  have hD : va_D A ((h0, .inr (2, [.null, .int 0, .int (-1), .int 0, .null, .null])) :: ex) := hD
  refine lv_aload_n hx hb dX2_init_19 rfl (lv_at hl 0 rfl) ?_
  refine lv_aload_n hx hb dX2_init_20 rfl (lv_at hl 1 rfl) ?_
  refine va_putF (ci := 2) (v := .ref b0) (ty := .array .int) (C := RX3) (T := TX3) (N := 6) hx hb hg z_inX3 tyX3 tyX3_ok nmX3 hown hK hP hD hS 0 rfl rfl 0 (by decide) (hg _ (z_g 77 (by decide +kernel) rfl)) (fun _ h9 => h9) rfl hin rfl (by decide +kernel) rfl rfl (Nat.le_of_ble_eq_true rfl) dX2_init_21 (fun H locs hP hD hS => ?_)
  have hP : va_P D z_cl ((h0, .inr (2, [.ref b0, .int 0, .int (-1), .int 0, .null, .null])) :: ex) H := hP
  have hD : va_D A ((h0, .inr (2, [.ref b0, .int 0, .int (-1), .int 0, .null, .null])) :: ex) := hD
  exact W.vret hx hb hr (fun t ht hW => ⟨⟨(), rfl, trivial, by rw [ht]; exact hP, va_K.moved hW.alike (hK.sub [] rfl), hD⟩, hS.F ht⟩) hS.2.2 dX2_init_24
set_option maxHeartbeats 4000000 in
set_option maxRecDepth 100000 in
theorem in_X0_init (l : Launch) (D : va_G) (h0 : Nat)  (ex : va_W) (sz : Nat) : Met l yX0_init (Cond.code yX0_init cX0_init 1 none :: lw_g) ({ frames := 2, cells := 5, slots := 71, locals := 33 } : Room) (va_Pc [.ref h0] (fun U => U.heap.size = sz ∧ va_P D z_cl ((h0, .inr (0, [.null, .int 0, .int 0, .int 0, .null, .null, .null, .null])) :: ex) U.heap ∧ va_K D z_cl [] U ∧ va_D (fun _ => True) ((h0, .inr (0, [.null, .int 0, .int 0, .int 0, .null, .null, .null, .null])) :: ex))) (va_Qv (fun _ : Unit => True) (fun _ t => ∃ (q3 q11 q19 q27 q35 : Nat) (c3 c11 c19 c27 c35 : ClassId), va_P D z_cl (((((((h0, .inr (0, [.ref q3, .int 0, .int (-1), .int 0, .ref q11, .ref q19, .ref q27, .ref q35])) :: ex) ++ [(q3, .inl (c3, (35, .inl (fun _ => 0))))]) ++ [(q11, .inl (c11, (9, .inl (fun _ => 0))))]) ++ [(q19, .inl (c19, (9, .inl (fun _ => 0))))]) ++ [(q27, .inl (c27, (9, .inl (fun _ => 0))))]) ++ [(q35, .inl (c35, (9, .inl (fun _ => 0))))]) t.heap ∧ va_K D z_cl [(c3, .int), (c11, .int), (c19, .int), (c27, .int), (c35, .int)] t ∧ va_D (va_A ((h0, .inr (0, [.null, .int 0, .int 0, .int 0, .null, .null, .null, .null])) :: ex) sz) (((((((h0, .inr (0, [.ref q3, .int 0, .int (-1), .int 0, .ref q11, .ref q19, .ref q27, .ref q35])) :: ex) ++ [(q3, .inl (c3, (35, .inl (fun _ => 0))))]) ++ [(q11, .inl (c11, (9, .inl (fun _ => 0))))]) ++ [(q19, .inl (c19, (9, .inl (fun _ => 0))))]) ++ [(q27, .inl (c27, (9, .inl (fun _ => 0))))]) ++ [(q35, .inl (c35, (9, .inl (fun _ => 0))))])) (va_A ((h0, .inr (0, [.null, .int 0, .int 0, .int 0, .null, .null, .null, .null])) :: ex) sz)) 5 71 (va_A ((h0, .inr (0, [.null, .int 0, .int 0, .int 0, .null, .null, .null, .null])) :: ex) sz) := by
  refine Met.ofW (cc := cX0_init) (maxL := 1) (ret := none) (by decide +kernel) rfl ?_
  intro p e s m args below meth c s₁ B hml hv
  obtain ⟨rfl, hsz, hP, hK, hD0⟩ := hv
  have hx := B.exec
  have hb := B.bytes
  have hr := B.returns
  have hlocks := B.notSynchronized
  have hg : ∀ w ∈ lw_g, w.before _ s = true := fun w hw => atoms_spec (ws := Cond.code yX0_init cX0_init 1 none :: lw_g) B.pre w (List.mem_cons_of_mem _ hw)
  have hown : s.vm.findClass RX0 = some m.cls := findClass_of_methodNamed B.named
  have hin : meth.name = "<init>" := (name_of_methodNamed B.named B.method).1
  subst hsz
  have hK0 := hK
  have hD := hD0.self (sz := s.heap.size)
  generalize hAe : va_A ((h0, .inr (0, [.null, .int 0, .int 0, .int 0, .null, .null, .null, .null])) :: ex) s.heap.size = A at hD ⊢
  have hA : ∀ q : Nat, s.heap.size ≤ q → A q := fun q h => by rw [← hAe]; exact Or.inr h
  have hS : va_S A s.heap s.heap [] := va_S.rf
  have hP : va_P D z_cl ((h0, .inr (0, [.null, .int 0, .int 0, .int 0, .null, .null, .null, .null])) :: ex) s.heap := hP
  have hl := lv_entry ([.ref h0]) (n := 1) (Nat.le_of_ble_eq_true rfl)
  rw [lg_entry_eq]
  generalize (lg_sl ([.ref h0]) ++ List.replicate (1 - (lg_sl ([.ref h0])).length) Slot.unset).toArray = ls at hl ⊢
  have hl : lv_has ls 1 [(0, .ref h0)] := hl
  refine lv_aload_n hx hb dX0_init_0 rfl (lv_at hl 0 rfl) ?_
  refine lv_bipush hx hb (v := 35) dX0_init_1 zb_35 ?_
  refine va_newa (atype := .int) hx hb (hg _ (z_g 98 (by decide +kernel) rfl)) rfl hK hP hD hS hA (n := 35) (N' := 35) (a0 := (35, .inl (fun _ => 0))) (fun cA => by first | rfl | exact vp_cell_i | exact vp_cell_l) (by decide) (by decide) (by decide) (Nat.le_of_ble_eq_true rfl) (Nat.le_of_ble_eq_true rfl) dX0_init_3 (fun q3 c3 H hK hP hD hS => ?_)
  have hP : va_P D z_cl (((h0, .inr (0, [.null, .int 0, .int 0, .int 0, .null, .null, .null, .null])) :: ex) ++ [(q3, .inl (c3, (35, .inl (fun _ => 0))))]) H := hP
  have hD : va_D A (((h0, .inr (0, [.null, .int 0, .int 0, .int 0, .null, .null, .null, .null])) :: ex) ++ [(q3, .inl (c3, (35, .inl (fun _ => 0))))]) := hD
  have hSo := hS
  have hP : va_P D z_cl ((h0, .inr (0, [.null, .int 0, .int 0, .int 0, .null, .null, .null, .null])) :: ((ex) ++ [(q3, .inl (c3, (35, .inl (fun _ => 0))))])) H := hP
  have hD : va_D A ((h0, .inr (0, [.null, .int 0, .int 0, .int 0, .null, .null, .null, .null])) :: ((ex) ++ [(q3, .inl (c3, (35, .inl (fun _ => 0))))])) := hD
  have hDo := hD
  refine va_callv (va_runI (As := [.ref q3]) (rest := []) ⟨hx, hb, hml, hown, hg⟩ (in_X2_init_X0 l D h0 q3 ((ex) ++ [(q3, .inl (c3, (35, .inl (fun _ => 0))))]) H.size) (cwI 1 hg (z_gi (z_g 71 (by decide +kernel) rfl)) rfl rfl rfl (hg _ (z_g 45 (by decide +kernel) rfl)) (hg _ (z_g 69 (by decide +kernel) rfl)) (hg _ (z_g 70 (by decide +kernel) rfl)) rfl (by decide +kernel) ⟨(Nat.le_of_ble_eq_true rfl), (Nat.le_of_ble_eq_true rfl)⟩) ⟨fun a U g mk q => by obtain ⟨r0, r1, rP, rK, rD⟩ := q; exact ⟨r0, r1, rP, va_K.moved (u := U) (U := U.calling g mk a) (Vm.Alike.refl U.vm) rK, rD⟩, fun U hU hW => ⟨rfl, by rw [hU], by rw [hU]; exact hP, va_K.moved hW.alike hK0, hD.weaken (fun _ _ _ _ => trivial)⟩⟩ rfl rfl hl.1 rfl (lv_room (Nat.le_of_ble_eq_true rfl)) dX0_init_5 ⟨(Nat.le_of_ble_eq_true rfl), (Nat.le_of_ble_eq_true rfl)⟩) hS (fun x _ h => z_Asub hD hS hA x h) (fun x h => z_Asub hD hS hA x h) (fun u t H locs ht hvm _ hB hz1 hk1 hS => ?_)
  obtain ⟨hP, hK1, hD⟩ := hB
  rw [ht] at hP
  have hK := hK.app (va_K.moved hvm.symm hK1)
  have hD := hD.weaken (fun _ _ _ h => z_Asub hDo hSo hA _ h)
  have hP : va_P D z_cl (((h0, .inr (0, [.ref q3, .int 0, .int (-1), .int 0, .null, .null, .null, .null])) :: ex) ++ [(q3, .inl (c3, (35, .inl (fun _ => 0))))]) H := hP
  have hD : va_D A (((h0, .inr (0, [.ref q3, .int 0, .int (-1), .int 0, .null, .null, .null, .null])) :: ex) ++ [(q3, .inl (c3, (35, .inl (fun _ => 0))))]) := hD
  refine lv_aload_n hx hb dX0_init_8 rfl (lv_at hl 0 rfl) ?_
  refine lv_bipush hx hb (v := 9) dX0_init_9 zb_9 ?_
  refine va_newa (atype := .int) hx hb (hg _ (z_g 98 (by decide +kernel) rfl)) rfl hK hP hD hS hA (n := 9) (N' := 9) (a0 := (9, .inl (fun _ => 0))) (fun cA => by first | rfl | exact vp_cell_i | exact vp_cell_l) (by decide) (by decide) (by decide) (Nat.le_of_ble_eq_true rfl) (Nat.le_of_ble_eq_true rfl) dX0_init_11 (fun q11 c11 H hK hP hD hS => ?_)
  have hP : va_P D z_cl ((((h0, .inr (0, [.ref q3, .int 0, .int (-1), .int 0, .null, .null, .null, .null])) :: ex) ++ [(q3, .inl (c3, (35, .inl (fun _ => 0))))]) ++ [(q11, .inl (c11, (9, .inl (fun _ => 0))))]) H := hP
  have hD : va_D A ((((h0, .inr (0, [.ref q3, .int 0, .int (-1), .int 0, .null, .null, .null, .null])) :: ex) ++ [(q3, .inl (c3, (35, .inl (fun _ => 0))))]) ++ [(q11, .inl (c11, (9, .inl (fun _ => 0))))]) := hD
  refine va_putF (ci := 0) (v := .ref q11) (ty := .array .int) (C := RX0) (T := TX0) (N := 8) hx hb hg z_inX0 tyX0 tyX0_ok nmX0 hown hK hP hD hS 0 rfl rfl 4 (by decide) (hg _ (z_g 73 (by decide +kernel) rfl)) (fun _ h9 => h9) rfl hin rfl (by decide +kernel) rfl rfl (Nat.le_of_ble_eq_true rfl) dX0_init_13 (fun H locs hP hD hS => ?_)
  have hP : va_P D z_cl ((((h0, .inr (0, [.ref q3, .int 0, .int (-1), .int 0, .ref q11, .null, .null, .null])) :: ex) ++ [(q3, .inl (c3, (35, .inl (fun _ => 0))))]) ++ [(q11, .inl (c11, (9, .inl (fun _ => 0))))]) H := hP
  have hD : va_D A ((((h0, .inr (0, [.ref q3, .int 0, .int (-1), .int 0, .ref q11, .null, .null, .null])) :: ex) ++ [(q3, .inl (c3, (35, .inl (fun _ => 0))))]) ++ [(q11, .inl (c11, (9, .inl (fun _ => 0))))]) := hD
  refine lv_aload_n hx hb dX0_init_16 rfl (lv_at hl 0 rfl) ?_
  refine lv_bipush hx hb (v := 9) dX0_init_17 zb_9 ?_
  refine va_newa (atype := .int) hx hb (hg _ (z_g 98 (by decide +kernel) rfl)) rfl hK hP hD hS hA (n := 9) (N' := 9) (a0 := (9, .inl (fun _ => 0))) (fun cA => by first | rfl | exact vp_cell_i | exact vp_cell_l) (by decide) (by decide) (by decide) (Nat.le_of_ble_eq_true rfl) (Nat.le_of_ble_eq_true rfl) dX0_init_19 (fun q19 c19 H hK hP hD hS => ?_)
  have hP : va_P D z_cl (((((h0, .inr (0, [.ref q3, .int 0, .int (-1), .int 0, .ref q11, .null, .null, .null])) :: ex) ++ [(q3, .inl (c3, (35, .inl (fun _ => 0))))]) ++ [(q11, .inl (c11, (9, .inl (fun _ => 0))))]) ++ [(q19, .inl (c19, (9, .inl (fun _ => 0))))]) H := hP
  have hD : va_D A (((((h0, .inr (0, [.ref q3, .int 0, .int (-1), .int 0, .ref q11, .null, .null, .null])) :: ex) ++ [(q3, .inl (c3, (35, .inl (fun _ => 0))))]) ++ [(q11, .inl (c11, (9, .inl (fun _ => 0))))]) ++ [(q19, .inl (c19, (9, .inl (fun _ => 0))))]) := hD
  refine va_putF (ci := 0) (v := .ref q19) (ty := .array .int) (C := RX0) (T := TX0) (N := 8) hx hb hg z_inX0 tyX0 tyX0_ok nmX0 hown hK hP hD hS 0 rfl rfl 5 (by decide) (hg _ (z_g 74 (by decide +kernel) rfl)) (fun _ h9 => h9) rfl hin rfl (by decide +kernel) rfl rfl (Nat.le_of_ble_eq_true rfl) dX0_init_21 (fun H locs hP hD hS => ?_)
  have hP : va_P D z_cl (((((h0, .inr (0, [.ref q3, .int 0, .int (-1), .int 0, .ref q11, .ref q19, .null, .null])) :: ex) ++ [(q3, .inl (c3, (35, .inl (fun _ => 0))))]) ++ [(q11, .inl (c11, (9, .inl (fun _ => 0))))]) ++ [(q19, .inl (c19, (9, .inl (fun _ => 0))))]) H := hP
  have hD : va_D A (((((h0, .inr (0, [.ref q3, .int 0, .int (-1), .int 0, .ref q11, .ref q19, .null, .null])) :: ex) ++ [(q3, .inl (c3, (35, .inl (fun _ => 0))))]) ++ [(q11, .inl (c11, (9, .inl (fun _ => 0))))]) ++ [(q19, .inl (c19, (9, .inl (fun _ => 0))))]) := hD
  refine lv_aload_n hx hb dX0_init_24 rfl (lv_at hl 0 rfl) ?_
  refine lv_bipush hx hb (v := 9) dX0_init_25 zb_9 ?_
  refine va_newa (atype := .int) hx hb (hg _ (z_g 98 (by decide +kernel) rfl)) rfl hK hP hD hS hA (n := 9) (N' := 9) (a0 := (9, .inl (fun _ => 0))) (fun cA => by first | rfl | exact vp_cell_i | exact vp_cell_l) (by decide) (by decide) (by decide) (Nat.le_of_ble_eq_true rfl) (Nat.le_of_ble_eq_true rfl) dX0_init_27 (fun q27 c27 H hK hP hD hS => ?_)
  have hP : va_P D z_cl ((((((h0, .inr (0, [.ref q3, .int 0, .int (-1), .int 0, .ref q11, .ref q19, .null, .null])) :: ex) ++ [(q3, .inl (c3, (35, .inl (fun _ => 0))))]) ++ [(q11, .inl (c11, (9, .inl (fun _ => 0))))]) ++ [(q19, .inl (c19, (9, .inl (fun _ => 0))))]) ++ [(q27, .inl (c27, (9, .inl (fun _ => 0))))]) H := hP
  have hD : va_D A ((((((h0, .inr (0, [.ref q3, .int 0, .int (-1), .int 0, .ref q11, .ref q19, .null, .null])) :: ex) ++ [(q3, .inl (c3, (35, .inl (fun _ => 0))))]) ++ [(q11, .inl (c11, (9, .inl (fun _ => 0))))]) ++ [(q19, .inl (c19, (9, .inl (fun _ => 0))))]) ++ [(q27, .inl (c27, (9, .inl (fun _ => 0))))]) := hD
  refine va_putF (ci := 0) (v := .ref q27) (ty := .array .int) (C := RX0) (T := TX0) (N := 8) hx hb hg z_inX0 tyX0 tyX0_ok nmX0 hown hK hP hD hS 0 rfl rfl 6 (by decide) (hg _ (z_g 75 (by decide +kernel) rfl)) (fun _ h9 => h9) rfl hin rfl (by decide +kernel) rfl rfl (Nat.le_of_ble_eq_true rfl) dX0_init_29 (fun H locs hP hD hS => ?_)
  have hP : va_P D z_cl ((((((h0, .inr (0, [.ref q3, .int 0, .int (-1), .int 0, .ref q11, .ref q19, .ref q27, .null])) :: ex) ++ [(q3, .inl (c3, (35, .inl (fun _ => 0))))]) ++ [(q11, .inl (c11, (9, .inl (fun _ => 0))))]) ++ [(q19, .inl (c19, (9, .inl (fun _ => 0))))]) ++ [(q27, .inl (c27, (9, .inl (fun _ => 0))))]) H := hP
  have hD : va_D A ((((((h0, .inr (0, [.ref q3, .int 0, .int (-1), .int 0, .ref q11, .ref q19, .ref q27, .null])) :: ex) ++ [(q3, .inl (c3, (35, .inl (fun _ => 0))))]) ++ [(q11, .inl (c11, (9, .inl (fun _ => 0))))]) ++ [(q19, .inl (c19, (9, .inl (fun _ => 0))))]) ++ [(q27, .inl (c27, (9, .inl (fun _ => 0))))]) := hD
  refine lv_aload_n hx hb dX0_init_32 rfl (lv_at hl 0 rfl) ?_
  refine lv_bipush hx hb (v := 9) dX0_init_33 zb_9 ?_
  refine va_newa (atype := .int) hx hb (hg _ (z_g 98 (by decide +kernel) rfl)) rfl hK hP hD hS hA (n := 9) (N' := 9) (a0 := (9, .inl (fun _ => 0))) (fun cA => by first | rfl | exact vp_cell_i | exact vp_cell_l) (by decide) (by decide) (by decide) (Nat.le_of_ble_eq_true rfl) (Nat.le_of_ble_eq_true rfl) dX0_init_35 (fun q35 c35 H hK hP hD hS => ?_)
  have hP : va_P D z_cl (((((((h0, .inr (0, [.ref q3, .int 0, .int (-1), .int 0, .ref q11, .ref q19, .ref q27, .null])) :: ex) ++ [(q3, .inl (c3, (35, .inl (fun _ => 0))))]) ++ [(q11, .inl (c11, (9, .inl (fun _ => 0))))]) ++ [(q19, .inl (c19, (9, .inl (fun _ => 0))))]) ++ [(q27, .inl (c27, (9, .inl (fun _ => 0))))]) ++ [(q35, .inl (c35, (9, .inl (fun _ => 0))))]) H := hP
  have hD : va_D A (((((((h0, .inr (0, [.ref q3, .int 0, .int (-1), .int 0, .ref q11, .ref q19, .ref q27, .null])) :: ex) ++ [(q3, .inl (c3, (35, .inl (fun _ => 0))))]) ++ [(q11, .inl (c11, (9, .inl (fun _ => 0))))]) ++ [(q19, .inl (c19, (9, .inl (fun _ => 0))))]) ++ [(q27, .inl (c27, (9, .inl (fun _ => 0))))]) ++ [(q35, .inl (c35, (9, .inl (fun _ => 0))))]) := hD
  refine va_putF (ci := 0) (v := .ref q35) (ty := .array .int) (C := RX0) (T := TX0) (N := 8) hx hb hg z_inX0 tyX0 tyX0_ok nmX0 hown hK hP hD hS 0 rfl rfl 7 (by decide) (hg _ (z_g 76 (by decide +kernel) rfl)) (fun _ h9 => h9) rfl hin rfl (by decide +kernel) rfl rfl (Nat.le_of_ble_eq_true rfl) dX0_init_37 (fun H locs hP hD hS => ?_)
  have hP : va_P D z_cl (((((((h0, .inr (0, [.ref q3, .int 0, .int (-1), .int 0, .ref q11, .ref q19, .ref q27, .ref q35])) :: ex) ++ [(q3, .inl (c3, (35, .inl (fun _ => 0))))]) ++ [(q11, .inl (c11, (9, .inl (fun _ => 0))))]) ++ [(q19, .inl (c19, (9, .inl (fun _ => 0))))]) ++ [(q27, .inl (c27, (9, .inl (fun _ => 0))))]) ++ [(q35, .inl (c35, (9, .inl (fun _ => 0))))]) H := hP
  have hD : va_D A (((((((h0, .inr (0, [.ref q3, .int 0, .int (-1), .int 0, .ref q11, .ref q19, .ref q27, .ref q35])) :: ex) ++ [(q3, .inl (c3, (35, .inl (fun _ => 0))))]) ++ [(q11, .inl (c11, (9, .inl (fun _ => 0))))]) ++ [(q19, .inl (c19, (9, .inl (fun _ => 0))))]) ++ [(q27, .inl (c27, (9, .inl (fun _ => 0))))]) ++ [(q35, .inl (c35, (9, .inl (fun _ => 0))))]) := hD
  exact W.vret hx hb hr (fun t ht hW => ⟨⟨(), rfl, trivial, q3, q11, q19, q27, q35, c3, c11, c19, c27, c35, by rw [ht]; exact hP, va_K.moved hW.alike (hK.sub [0, 1, 2, 3, 4] rfl), hD⟩, hS.F ht⟩) hS.2.2 dX0_init_40
set_option maxHeartbeats 4000000 in
set_option maxRecDepth 100000 in
theorem in_X3_init (l : Launch) (D : va_G) (h0 : Nat)  (ex : va_W) (sz : Nat) : Met l yX3_init (Cond.code yX3_init cX3_init 1 none :: lw_g) ({ frames := 2, cells := 3, slots := 35, locals := 33 } : Room) (va_Pc [.ref h0] (fun U => U.heap.size = sz ∧ va_P D z_cl ((h0, .inr (2, [.null, .int 0, .int 0, .int 0, .null, .null])) :: ex) U.heap ∧ va_K D z_cl [] U ∧ va_D (fun _ => True) ((h0, .inr (2, [.null, .int 0, .int 0, .int 0, .null, .null])) :: ex))) (va_Qv (fun _ : Unit => True) (fun _ t => ∃ (q3 q11 q19 : Nat) (c3 c11 c19 : ClassId), va_P D z_cl (((((h0, .inr (2, [.ref q3, .int 0, .int (-1), .int 0, .ref q11, .ref q19])) :: ex) ++ [(q3, .inl (c3, (23, .inl (fun _ => 0))))]) ++ [(q11, .inl (c11, (6, .inl (fun _ => 0))))]) ++ [(q19, .inl (c19, (6, .inl (fun _ => 0))))]) t.heap ∧ va_K D z_cl [(c3, .int), (c11, .int), (c19, .int)] t ∧ va_D (va_A ((h0, .inr (2, [.null, .int 0, .int 0, .int 0, .null, .null])) :: ex) sz) (((((h0, .inr (2, [.ref q3, .int 0, .int (-1), .int 0, .ref q11, .ref q19])) :: ex) ++ [(q3, .inl (c3, (23, .inl (fun _ => 0))))]) ++ [(q11, .inl (c11, (6, .inl (fun _ => 0))))]) ++ [(q19, .inl (c19, (6, .inl (fun _ => 0))))])) (va_A ((h0, .inr (2, [.null, .int 0, .int 0, .int 0, .null, .null])) :: ex) sz)) 3 35 (va_A ((h0, .inr (2, [.null, .int 0, .int 0, .int 0, .null, .null])) :: ex) sz) := by
  refine Met.ofW (cc := cX3_init) (maxL := 1) (ret := none) (by decide +kernel) rfl ?_
  intro p e s m args below meth c s₁ B hml hv
  obtain ⟨rfl, hsz, hP, hK, hD0⟩ := hv
  have hx := B.exec
  have hb := B.bytes
  have hr := B.returns
  have hlocks := B.notSynchronized
  have hg : ∀ w ∈ lw_g, w.before _ s = true := fun w hw => atoms_spec (ws := Cond.code yX3_init cX3_init 1 none :: lw_g) B.pre w (List.mem_cons_of_mem _ hw)
  have hown : s.vm.findClass RX3 = some m.cls := findClass_of_methodNamed B.named
  have hin : meth.name = "<init>" := (name_of_methodNamed B.named B.method).1
  subst hsz
  have hK0 := hK
  have hD := hD0.self (sz := s.heap.size)
  generalize hAe : va_A ((h0, .inr (2, [.null, .int 0, .int 0, .int 0, .null, .null])) :: ex) s.heap.size = A at hD ⊢
  have hA : ∀ q : Nat, s.heap.size ≤ q → A q := fun q h => by rw [← hAe]; exact Or.inr h
  have hS : va_S A s.heap s.heap [] := va_S.rf
  have hP : va_P D z_cl ((h0, .inr (2, [.null, .int 0, .int 0, .int 0, .null, .null])) :: ex) s.heap := hP
  have hl := lv_entry ([.ref h0]) (n := 1) (Nat.le_of_ble_eq_true rfl)
  rw [lg_entry_eq]
  generalize (lg_sl ([.ref h0]) ++ List.replicate (1 - (lg_sl ([.ref h0])).length) Slot.unset).toArray = ls at hl ⊢
  have hl : lv_has ls 1 [(0, .ref h0)] := hl
  refine lv_aload_n hx hb dX3_init_0 rfl (lv_at hl 0 rfl) ?_
  refine lv_bipush hx hb (v := 23) dX3_init_1 zb_23 ?_
  refine va_newa (atype := .int) hx hb (hg _ (z_g 98 (by decide +kernel) rfl)) rfl hK hP hD hS hA (n := 23) (N' := 23) (a0 := (23, .inl (fun _ => 0))) (fun cA => by first | rfl | exact vp_cell_i | exact vp_cell_l) (by decide) (by decide) (by decide) (Nat.le_of_ble_eq_true rfl) (Nat.le_of_ble_eq_true rfl) dX3_init_3 (fun q3 c3 H hK hP hD hS => ?_)
  have hP : va_P D z_cl (((h0, .inr (2, [.null, .int 0, .int 0, .int 0, .null, .null])) :: ex) ++ [(q3, .inl (c3, (23, .inl (fun _ => 0))))]) H := hP
  have hD : va_D A (((h0, .inr (2, [.null, .int 0, .int 0, .int 0, .null, .null])) :: ex) ++ [(q3, .inl (c3, (23, .inl (fun _ => 0))))]) := hD
  have hSo := hS
  have hP : va_P D z_cl ((h0, .inr (2, [.null, .int 0, .int 0, .int 0, .null, .null])) :: ((ex) ++ [(q3, .inl (c3, (23, .inl (fun _ => 0))))])) H := hP
  have hD : va_D A ((h0, .inr (2, [.null, .int 0, .int 0, .int 0, .null, .null])) :: ((ex) ++ [(q3, .inl (c3, (23, .inl (fun _ => 0))))])) := hD
  have hDo := hD
  refine va_callv (va_runI (As := [.ref q3]) (rest := []) ⟨hx, hb, hml, hown, hg⟩ (in_X2_init_X3 l D h0 q3 ((ex) ++ [(q3, .inl (c3, (23, .inl (fun _ => 0))))]) H.size) (cwI 1 hg (z_gi (z_g 71 (by decide +kernel) rfl)) rfl rfl rfl (hg _ (z_g 45 (by decide +kernel) rfl)) (hg _ (z_g 104 (by decide +kernel) rfl)) (hg _ (z_g 70 (by decide +kernel) rfl)) rfl (by decide +kernel) ⟨(Nat.le_of_ble_eq_true rfl), (Nat.le_of_ble_eq_true rfl)⟩) ⟨fun a U g mk q => by obtain ⟨r0, r1, rP, rK, rD⟩ := q; exact ⟨r0, r1, rP, va_K.moved (u := U) (U := U.calling g mk a) (Vm.Alike.refl U.vm) rK, rD⟩, fun U hU hW => ⟨rfl, by rw [hU], by rw [hU]; exact hP, va_K.moved hW.alike hK0, hD.weaken (fun _ _ _ _ => trivial)⟩⟩ rfl rfl hl.1 rfl (lv_room (Nat.le_of_ble_eq_true rfl)) dX3_init_5 ⟨(Nat.le_of_ble_eq_true rfl), (Nat.le_of_ble_eq_true rfl)⟩) hS (fun x _ h => z_Asub hD hS hA x h) (fun x h => z_Asub hD hS hA x h) (fun u t H locs ht hvm _ hB hz1 hk1 hS => ?_)
  obtain ⟨hP, hK1, hD⟩ := hB
  rw [ht] at hP
  have hK := hK.app (va_K.moved hvm.symm hK1)
  have hD := hD.weaken (fun _ _ _ h => z_Asub hDo hSo hA _ h)
  have hP : va_P D z_cl (((h0, .inr (2, [.ref q3, .int 0, .int (-1), .int 0, .null, .null])) :: ex) ++ [(q3, .inl (c3, (23, .inl (fun _ => 0))))]) H := hP
  have hD : va_D A (((h0, .inr (2, [.ref q3, .int 0, .int (-1), .int 0, .null, .null])) :: ex) ++ [(q3, .inl (c3, (23, .inl (fun _ => 0))))]) := hD
  refine lv_aload_n hx hb dX3_init_8 rfl (lv_at hl 0 rfl) ?_
  refine lv_bipush hx hb (v := 6) dX3_init_9 zb_6 ?_
  refine va_newa (atype := .int) hx hb (hg _ (z_g 98 (by decide +kernel) rfl)) rfl hK hP hD hS hA (n := 6) (N' := 6) (a0 := (6, .inl (fun _ => 0))) (fun cA => by first | rfl | exact vp_cell_i | exact vp_cell_l) (by decide) (by decide) (by decide) (Nat.le_of_ble_eq_true rfl) (Nat.le_of_ble_eq_true rfl) dX3_init_11 (fun q11 c11 H hK hP hD hS => ?_)
  have hP : va_P D z_cl ((((h0, .inr (2, [.ref q3, .int 0, .int (-1), .int 0, .null, .null])) :: ex) ++ [(q3, .inl (c3, (23, .inl (fun _ => 0))))]) ++ [(q11, .inl (c11, (6, .inl (fun _ => 0))))]) H := hP
  have hD : va_D A ((((h0, .inr (2, [.ref q3, .int 0, .int (-1), .int 0, .null, .null])) :: ex) ++ [(q3, .inl (c3, (23, .inl (fun _ => 0))))]) ++ [(q11, .inl (c11, (6, .inl (fun _ => 0))))]) := hD
  refine va_putF (ci := 2) (v := .ref q11) (ty := .array .int) (C := RX3) (T := TX3) (N := 6) hx hb hg z_inX3 tyX3 tyX3_ok nmX3 hown hK hP hD hS 0 rfl rfl 4 (by decide) (hg _ (z_g 105 (by decide +kernel) rfl)) (fun _ h9 => h9) rfl hin rfl (by decide +kernel) rfl rfl (Nat.le_of_ble_eq_true rfl) dX3_init_13 (fun H locs hP hD hS => ?_)
  have hP : va_P D z_cl ((((h0, .inr (2, [.ref q3, .int 0, .int (-1), .int 0, .ref q11, .null])) :: ex) ++ [(q3, .inl (c3, (23, .inl (fun _ => 0))))]) ++ [(q11, .inl (c11, (6, .inl (fun _ => 0))))]) H := hP
  have hD : va_D A ((((h0, .inr (2, [.ref q3, .int 0, .int (-1), .int 0, .ref q11, .null])) :: ex) ++ [(q3, .inl (c3, (23, .inl (fun _ => 0))))]) ++ [(q11, .inl (c11, (6, .inl (fun _ => 0))))]) := hD
  refine lv_aload_n hx hb dX3_init_16 rfl (lv_at hl 0 rfl) ?_
  refine lv_bipush hx hb (v := 6) dX3_init_17 zb_6 ?_
  refine va_newa (atype := .int) hx hb (hg _ (z_g 98 (by decide +kernel) rfl)) rfl hK hP hD hS hA (n := 6) (N' := 6) (a0 := (6, .inl (fun _ => 0))) (fun cA => by first | rfl | exact vp_cell_i | exact vp_cell_l) (by decide) (by decide) (by decide) (Nat.le_of_ble_eq_true rfl) (Nat.le_of_ble_eq_true rfl) dX3_init_19 (fun q19 c19 H hK hP hD hS => ?_)
  have hP : va_P D z_cl (((((h0, .inr (2, [.ref q3, .int 0, .int (-1), .int 0, .ref q11, .null])) :: ex) ++ [(q3, .inl (c3, (23, .inl (fun _ => 0))))]) ++ [(q11, .inl (c11, (6, .inl (fun _ => 0))))]) ++ [(q19, .inl (c19, (6, .inl (fun _ => 0))))]) H := hP
  have hD : va_D A (((((h0, .inr (2, [.ref q3, .int 0, .int (-1), .int 0, .ref q11, .null])) :: ex) ++ [(q3, .inl (c3, (23, .inl (fun _ => 0))))]) ++ [(q11, .inl (c11, (6, .inl (fun _ => 0))))]) ++ [(q19, .inl (c19, (6, .inl (fun _ => 0))))]) := hD
  refine va_putF (ci := 2) (v := .ref q19) (ty := .array .int) (C := RX3) (T := TX3) (N := 6) hx hb hg z_inX3 tyX3 tyX3_ok nmX3 hown hK hP hD hS 0 rfl rfl 5 (by decide) (hg _ (z_g 106 (by decide +kernel) rfl)) (fun _ h9 => h9) rfl hin rfl (by decide +kernel) rfl rfl (Nat.le_of_ble_eq_true rfl) dX3_init_21 (fun H locs hP hD hS => ?_)
  have hP : va_P D z_cl (((((h0, .inr (2, [.ref q3, .int 0, .int (-1), .int 0, .ref q11, .ref q19])) :: ex) ++ [(q3, .inl (c3, (23, .inl (fun _ => 0))))]) ++ [(q11, .inl (c11, (6, .inl (fun _ => 0))))]) ++ [(q19, .inl (c19, (6, .inl (fun _ => 0))))]) H := hP
  have hD : va_D A (((((h0, .inr (2, [.ref q3, .int 0, .int (-1), .int 0, .ref q11, .ref q19])) :: ex) ++ [(q3, .inl (c3, (23, .inl (fun _ => 0))))]) ++ [(q11, .inl (c11, (6, .inl (fun _ => 0))))]) ++ [(q19, .inl (c19, (6, .inl (fun _ => 0))))]) := hD
  exact W.vret hx hb hr (fun t ht hW => ⟨⟨(), rfl, trivial, q3, q11, q19, c3, c11, c19, by rw [ht]; exact hP, va_K.moved hW.alike (hK.sub [0, 1, 2] rfl), hD⟩, hS.F ht⟩) hS.2.2 dX3_init_24
set_option maxHeartbeats 4000000 in
set_option maxRecDepth 100000 in
theorem sg_X7_init_4 {p : Program} {l : Launch} {e : Env} {R : Room} {s : State} {m : MethodId} {args : Array Value} {below : List Frame} {meth : Method} {c : Code} {H : Heap} {locs : List Loc} {cells slots : Nat} {Q : State → Prop} {ls : Array Slot} {D : va_G} {A : Nat → Prop} (h0 : Nat) (f0 f1 f2 f3 f4 f5 f6 f7 f8 f9 f10 : Value) (ws : va_W) (hx : p.tables.exec = Jvm.exec) (hb : c.code = cX7_init) (hml : c.maxLocals = 2) (hg : ∀ w ∈ lw_g, w.before args s = true) (hown : s.vm.findClass RX7 = some m.cls) (hin : meth.name = "<init>") (hK0 : va_K D z_cl [] s) (hA : ∀ q : Nat, s.heap.size ≤ q → A q) (hAO : va_AO "NineBooks$Sheet" s) (hN : z_nN s) (hRf : 3 ≤ R.frames) (hRl : 53 ≤ R.locals) (hRc : cells + 6 ≤ R.cells) (hRs : slots + 79 ≤ R.slots) (hl : lv_has ls 2 [(0, .ref h0)]) (hS : va_S A s.heap H locs) (hP : va_P D z_cl ((h0, .inr (6, [f0, f1, f2, f3, f4, f5, f6, f7, f8, f9, f10])) :: ws) H) (hD : va_D A ((h0, .inr (6, [f0, f1, f2, f3, f4, f5, f6, f7, f8, f9, f10])) :: ws)) (kk : ∀ (q5_0 q3_9_1 q11_9_1 q19_9_1 q27_9_1 q35_9_1 : Nat) (c3_9_1 c11_9_1 c19_9_1 c27_9_1 c35_9_1 : ClassId) (H : Heap) (locs : List Loc), va_P D z_cl ((((((((h0, .inr (6, [.ref q5_0, f1, f2, f3, f4, f5, f6, f7, f8, f9, f10])) :: ws) ++ [(q3_9_1, .inl (c3_9_1, (35, .inl (fun _ => 0))))]) ++ [(q11_9_1, .inl (c11_9_1, (9, .inl (fun _ => 0))))]) ++ [(q19_9_1, .inl (c19_9_1, (9, .inl (fun _ => 0))))]) ++ [(q27_9_1, .inl (c27_9_1, (9, .inl (fun _ => 0))))]) ++ [(q35_9_1, .inl (c35_9_1, (9, .inl (fun _ => 0))))]) ++ [(q5_0, .inr (0, [.ref q3_9_1, .int 0, .int (-1), .int 0, .ref q11_9_1, .ref q19_9_1, .ref q27_9_1, .ref q35_9_1]))]) H → va_D A ((((((((h0, .inr (6, [.ref q5_0, f1, f2, f3, f4, f5, f6, f7, f8, f9, f10])) :: ws) ++ [(q3_9_1, .inl (c3_9_1, (35, .inl (fun _ => 0))))]) ++ [(q11_9_1, .inl (c11_9_1, (9, .inl (fun _ => 0))))]) ++ [(q19_9_1, .inl (c19_9_1, (9, .inl (fun _ => 0))))]) ++ [(q27_9_1, .inl (c27_9_1, (9, .inl (fun _ => 0))))]) ++ [(q35_9_1, .inl (c35_9_1, (9, .inl (fun _ => 0))))]) ++ [(q5_0, .inr (0, [.ref q3_9_1, .int 0, .int (-1), .int 0, .ref q11_9_1, .ref q19_9_1, .ref q27_9_1, .ref q35_9_1]))]) → va_S A s.heap H locs → va_K D z_cl [(c3_9_1, .int), (c11_9_1, .int), (c19_9_1, .int), (c27_9_1, .int), (c35_9_1, .int)] s → W p l e R s m args below meth c H locs (cells + 6) (slots + 79) Q (F0 m 15 ls [])) : W p l e R s m args below meth c H locs cells slots Q (F0 m 4 ls []) := by
  have hK := hK0
  refine lv_aload_n hx hb dX7_init_4 rfl (lv_at hl 0 rfl) ?_
  refine va_new (ci := 0) (fs := [.null, .int 0, .int 0, .int 0, .null, .null, .null, .null]) (C := RX0) (T := TX0) (N := 8) hx hb hg z_inX0 tyX0 tyX0_ok hown (hg _ (z_g 64 (by decide +kernel) rfl)) (hg _ (z_g 65 (by decide +kernel) rfl)) (hg _ (z_g 46 (by decide +kernel) rfl)) hK hP hD hS hA rfl (fun j hj => by rcases (show j = 0 ∨ j = 1 ∨ j = 2 ∨ j = 3 ∨ j = 4 ∨ j = 5 ∨ j = 6 ∨ j = 7 by omega) with rfl | rfl | rfl | rfl | rfl | rfl | rfl | rfl <;> rfl) (by omega) (by omega) dX7_init_5 (fun q5_0 H hP hD hS => ?_)
  have hP := va_P.swap (a := []) hP
  have hD := va_D.swap (a := []) hD
  have hP : va_P D z_cl ((q5_0, .inr (0, [.null, .int 0, .int 0, .int 0, .null, .null, .null, .null])) :: (h0, .inr (6, [f0, f1, f2, f3, f4, f5, f6, f7, f8, f9, f10])) :: ws) H := hP
  have hD : va_D A ((q5_0, .inr (0, [.null, .int 0, .int 0, .int 0, .null, .null, .null, .null])) :: (h0, .inr (6, [f0, f1, f2, f3, f4, f5, f6, f7, f8, f9, f10])) :: ws) := hD
  refine lv_dup hx hb dX7_init_8 rfl ?_
  have hSo := hS
  have hP : va_P D z_cl ((q5_0, .inr (0, [.null, .int 0, .int 0, .int 0, .null, .null, .null, .null])) :: ((h0, .inr (6, [f0, f1, f2, f3, f4, f5, f6, f7, f8, f9, f10])) :: ws)) H := hP
  have hD : va_D A ((q5_0, .inr (0, [.null, .int 0, .int 0, .int 0, .null, .null, .null, .null])) :: ((h0, .inr (6, [f0, f1, f2, f3, f4, f5, f6, f7, f8, f9, f10])) :: ws)) := hD
  have hDo := hD
  refine va_callv (va_runI (As := []) (rest := [.ref q5_0, .ref h0]) ⟨hx, hb, hml, hown, hg⟩ (in_X0_init l D q5_0  ((h0, .inr (6, [f0, f1, f2, f3, f4, f5, f6, f7, f8, f9, f10])) :: ws) H.size) (cwI 0 hg (z_gi (z_g 68 (by decide +kernel) rfl)) rfl rfl rfl (hg _ (z_g 46 (by decide +kernel) rfl)) (hg _ (z_g 66 (by decide +kernel) rfl)) (hg _ (z_g 67 (by decide +kernel) rfl)) rfl (by decide +kernel) ⟨(by omega), (by omega)⟩) ⟨fun a U g mk q => by obtain ⟨r0, r1, rP, rK, rD⟩ := q; exact ⟨r0, r1, rP, va_K.moved (u := U) (U := U.calling g mk a) (Vm.Alike.refl U.vm) rK, rD⟩, fun U hU hW => ⟨rfl, by rw [hU], by rw [hU]; exact hP, va_K.moved hW.alike hK0, hD.weaken (fun _ _ _ _ => trivial)⟩⟩ rfl rfl hl.1 rfl (lv_room (Nat.le_of_ble_eq_true rfl)) dX7_init_9 ⟨(by omega), (by omega)⟩) hS (fun x _ h => z_Asub hD hS hA x h) (fun x h => z_Asub hD hS hA x h) (fun u t H locs ht hvm _ hB hz1 hk1 hS => ?_)
  obtain ⟨q3_9_1, q11_9_1, q19_9_1, q27_9_1, q35_9_1, c3_9_1, c11_9_1, c19_9_1, c27_9_1, c35_9_1, hP, hK1, hD⟩ := hB
  rw [ht] at hP
  have hK := hK.app (va_K.moved hvm.symm hK1)
  have hD := hD.weaken (fun _ _ _ h => z_Asub hDo hSo hA _ h)
  have hP : va_P D z_cl (((((((q5_0, .inr (0, [.ref q3_9_1, .int 0, .int (-1), .int 0, .ref q11_9_1, .ref q19_9_1, .ref q27_9_1, .ref q35_9_1])) :: (h0, .inr (6, [f0, f1, f2, f3, f4, f5, f6, f7, f8, f9, f10])) :: ws) ++ [(q3_9_1, .inl (c3_9_1, (35, .inl (fun _ => 0))))]) ++ [(q11_9_1, .inl (c11_9_1, (9, .inl (fun _ => 0))))]) ++ [(q19_9_1, .inl (c19_9_1, (9, .inl (fun _ => 0))))]) ++ [(q27_9_1, .inl (c27_9_1, (9, .inl (fun _ => 0))))]) ++ [(q35_9_1, .inl (c35_9_1, (9, .inl (fun _ => 0))))]) H := hP
  have hD : va_D A (((((((q5_0, .inr (0, [.ref q3_9_1, .int 0, .int (-1), .int 0, .ref q11_9_1, .ref q19_9_1, .ref q27_9_1, .ref q35_9_1])) :: (h0, .inr (6, [f0, f1, f2, f3, f4, f5, f6, f7, f8, f9, f10])) :: ws) ++ [(q3_9_1, .inl (c3_9_1, (35, .inl (fun _ => 0))))]) ++ [(q11_9_1, .inl (c11_9_1, (9, .inl (fun _ => 0))))]) ++ [(q19_9_1, .inl (c19_9_1, (9, .inl (fun _ => 0))))]) ++ [(q27_9_1, .inl (c27_9_1, (9, .inl (fun _ => 0))))]) ++ [(q35_9_1, .inl (c35_9_1, (9, .inl (fun _ => 0))))]) := hD
  refine va_putF (ci := 6) (v := .ref q5_0) (ty := .object "NineBooks$Books") (C := RX7) (T := TX7) (N := 11) hx hb hg z_inX7 tyX7 tyX7_ok nmX7 hown hK hP hD hS 1 rfl rfl 0 (by decide) (hg _ (z_g 168 (by decide +kernel) rfl)) (fun _ h9 => h9) rfl hin rfl (by decide +kernel) rfl rfl (Nat.le_of_ble_eq_true rfl) dX7_init_12 (fun H locs hP hD hS => ?_)
  have hP : va_P D z_cl (((((((q5_0, .inr (0, [.ref q3_9_1, .int 0, .int (-1), .int 0, .ref q11_9_1, .ref q19_9_1, .ref q27_9_1, .ref q35_9_1])) :: (h0, .inr (6, [.ref q5_0, f1, f2, f3, f4, f5, f6, f7, f8, f9, f10])) :: ws) ++ [(q3_9_1, .inl (c3_9_1, (35, .inl (fun _ => 0))))]) ++ [(q11_9_1, .inl (c11_9_1, (9, .inl (fun _ => 0))))]) ++ [(q19_9_1, .inl (c19_9_1, (9, .inl (fun _ => 0))))]) ++ [(q27_9_1, .inl (c27_9_1, (9, .inl (fun _ => 0))))]) ++ [(q35_9_1, .inl (c35_9_1, (9, .inl (fun _ => 0))))]) H := hP
  have hD : va_D A (((((((q5_0, .inr (0, [.ref q3_9_1, .int 0, .int (-1), .int 0, .ref q11_9_1, .ref q19_9_1, .ref q27_9_1, .ref q35_9_1])) :: (h0, .inr (6, [.ref q5_0, f1, f2, f3, f4, f5, f6, f7, f8, f9, f10])) :: ws) ++ [(q3_9_1, .inl (c3_9_1, (35, .inl (fun _ => 0))))]) ++ [(q11_9_1, .inl (c11_9_1, (9, .inl (fun _ => 0))))]) ++ [(q19_9_1, .inl (c19_9_1, (9, .inl (fun _ => 0))))]) ++ [(q27_9_1, .inl (c27_9_1, (9, .inl (fun _ => 0))))]) ++ [(q35_9_1, .inl (c35_9_1, (9, .inl (fun _ => 0))))]) := hD
  have hP := va_P.swap (a := []) (b := [(q5_0, .inr (0, [.ref q3_9_1, .int 0, .int (-1), .int 0, .ref q11_9_1, .ref q19_9_1, .ref q27_9_1, .ref q35_9_1]))]) (c := (((((((h0, .inr (6, [.ref q5_0, f1, f2, f3, f4, f5, f6, f7, f8, f9, f10])) :: ws) ++ [(q3_9_1, .inl (c3_9_1, (35, .inl (fun _ => 0))))]) ++ [(q11_9_1, .inl (c11_9_1, (9, .inl (fun _ => 0))))]) ++ [(q19_9_1, .inl (c19_9_1, (9, .inl (fun _ => 0))))]) ++ [(q27_9_1, .inl (c27_9_1, (9, .inl (fun _ => 0))))]) ++ [(q35_9_1, .inl (c35_9_1, (9, .inl (fun _ => 0))))])) hP
  have hD := va_D.swap (a := []) (b := [(q5_0, .inr (0, [.ref q3_9_1, .int 0, .int (-1), .int 0, .ref q11_9_1, .ref q19_9_1, .ref q27_9_1, .ref q35_9_1]))]) (c := (((((((h0, .inr (6, [.ref q5_0, f1, f2, f3, f4, f5, f6, f7, f8, f9, f10])) :: ws) ++ [(q3_9_1, .inl (c3_9_1, (35, .inl (fun _ => 0))))]) ++ [(q11_9_1, .inl (c11_9_1, (9, .inl (fun _ => 0))))]) ++ [(q19_9_1, .inl (c19_9_1, (9, .inl (fun _ => 0))))]) ++ [(q27_9_1, .inl (c27_9_1, (9, .inl (fun _ => 0))))]) ++ [(q35_9_1, .inl (c35_9_1, (9, .inl (fun _ => 0))))])) hD
  have hP : va_P D z_cl ((((((((h0, .inr (6, [.ref q5_0, f1, f2, f3, f4, f5, f6, f7, f8, f9, f10])) :: ws) ++ [(q3_9_1, .inl (c3_9_1, (35, .inl (fun _ => 0))))]) ++ [(q11_9_1, .inl (c11_9_1, (9, .inl (fun _ => 0))))]) ++ [(q19_9_1, .inl (c19_9_1, (9, .inl (fun _ => 0))))]) ++ [(q27_9_1, .inl (c27_9_1, (9, .inl (fun _ => 0))))]) ++ [(q35_9_1, .inl (c35_9_1, (9, .inl (fun _ => 0))))]) ++ [(q5_0, .inr (0, [.ref q3_9_1, .int 0, .int (-1), .int 0, .ref q11_9_1, .ref q19_9_1, .ref q27_9_1, .ref q35_9_1]))]) H := hP
  have hD : va_D A ((((((((h0, .inr (6, [.ref q5_0, f1, f2, f3, f4, f5, f6, f7, f8, f9, f10])) :: ws) ++ [(q3_9_1, .inl (c3_9_1, (35, .inl (fun _ => 0))))]) ++ [(q11_9_1, .inl (c11_9_1, (9, .inl (fun _ => 0))))]) ++ [(q19_9_1, .inl (c19_9_1, (9, .inl (fun _ => 0))))]) ++ [(q27_9_1, .inl (c27_9_1, (9, .inl (fun _ => 0))))]) ++ [(q35_9_1, .inl (c35_9_1, (9, .inl (fun _ => 0))))]) ++ [(q5_0, .inr (0, [.ref q3_9_1, .int 0, .int (-1), .int 0, .ref q11_9_1, .ref q19_9_1, .ref q27_9_1, .ref q35_9_1]))]) := hD
  refine W.widen (k := cells + 6) (n := slots + 79) (by omega) (by omega) ?_
  exact kk q5_0 q3_9_1 q11_9_1 q19_9_1 q27_9_1 q35_9_1 c3_9_1 c11_9_1 c19_9_1 c27_9_1 c35_9_1 H locs hP hD hS (hK.sub [0, 1, 2, 3, 4] rfl)
set_option maxHeartbeats 4000000 in
set_option maxRecDepth 100000 in
theorem sg_X7_init_15 {p : Program} {l : Launch} {e : Env} {R : Room} {s : State} {m : MethodId} {args : Array Value} {below : List Frame} {meth : Method} {c : Code} {H : Heap} {locs : List Loc} {cells slots : Nat} {Q : State → Prop} {ls : Array Slot} {D : va_G} {A : Nat → Prop} (h0 : Nat) (f0 f1 f2 f3 f4 f5 f6 f7 f8 f9 f10 : Value) (ws : va_W) (hx : p.tables.exec = Jvm.exec) (hb : c.code = cX7_init) (hml : c.maxLocals = 2) (hg : ∀ w ∈ lw_g, w.before args s = true) (hown : s.vm.findClass RX7 = some m.cls) (hin : meth.name = "<init>") (hK0 : va_K D z_cl [] s) (hA : ∀ q : Nat, s.heap.size ≤ q → A q) (hAO : va_AO "NineBooks$Sheet" s) (hN : z_nN s) (hRf : 3 ≤ R.frames) (hRl : 53 ≤ R.locals) (hRc : cells + 4 ≤ R.cells) (hRs : slots + 41 ≤ R.slots) (hl : lv_has ls 2 [(0, .ref h0)]) (hS : va_S A s.heap H locs) (hP : va_P D z_cl ((h0, .inr (6, [f0, f1, f2, f3, f4, f5, f6, f7, f8, f9, f10])) :: ws) H) (hD : va_D A ((h0, .inr (6, [f0, f1, f2, f3, f4, f5, f6, f7, f8, f9, f10])) :: ws)) (kk : ∀ (q16_0 q3_20_1 q11_20_1 q19_20_1 : Nat) (c3_20_1 c11_20_1 c19_20_1 : ClassId) (H : Heap) (locs : List Loc), va_P D z_cl ((((((h0, .inr (6, [f0, .ref q16_0, f2, f3, f4, f5, f6, f7, f8, f9, f10])) :: ws) ++ [(q3_20_1, .inl (c3_20_1, (23, .inl (fun _ => 0))))]) ++ [(q11_20_1, .inl (c11_20_1, (6, .inl (fun _ => 0))))]) ++ [(q19_20_1, .inl (c19_20_1, (6, .inl (fun _ => 0))))]) ++ [(q16_0, .inr (2, [.ref q3_20_1, .int 0, .int (-1), .int 0, .ref q11_20_1, .ref q19_20_1]))]) H → va_D A ((((((h0, .inr (6, [f0, .ref q16_0, f2, f3, f4, f5, f6, f7, f8, f9, f10])) :: ws) ++ [(q3_20_1, .inl (c3_20_1, (23, .inl (fun _ => 0))))]) ++ [(q11_20_1, .inl (c11_20_1, (6, .inl (fun _ => 0))))]) ++ [(q19_20_1, .inl (c19_20_1, (6, .inl (fun _ => 0))))]) ++ [(q16_0, .inr (2, [.ref q3_20_1, .int 0, .int (-1), .int 0, .ref q11_20_1, .ref q19_20_1]))]) → va_S A s.heap H locs → va_K D z_cl [(c3_20_1, .int), (c11_20_1, .int), (c19_20_1, .int)] s → W p l e R s m args below meth c H locs (cells + 4) (slots + 41) Q (F0 m 26 ls [])) : W p l e R s m args below meth c H locs cells slots Q (F0 m 15 ls []) := by
  have hK := hK0
  refine lv_aload_n hx hb dX7_init_15 rfl (lv_at hl 0 rfl) ?_
  refine va_new (ci := 2) (fs := [.null, .int 0, .int 0, .int 0, .null, .null]) (C := RX3) (T := TX3) (N := 6) hx hb hg z_inX3 tyX3 tyX3_ok hown (hg _ (z_g 99 (by decide +kernel) rfl)) (hg _ (z_g 100 (by decide +kernel) rfl)) (hg _ (z_g 47 (by decide +kernel) rfl)) hK hP hD hS hA rfl (fun j hj => by rcases (show j = 0 ∨ j = 1 ∨ j = 2 ∨ j = 3 ∨ j = 4 ∨ j = 5 by omega) with rfl | rfl | rfl | rfl | rfl | rfl <;> rfl) (by omega) (by omega) dX7_init_16 (fun q16_0 H hP hD hS => ?_)
  have hP := va_P.swap (a := []) hP
  have hD := va_D.swap (a := []) hD
  have hP : va_P D z_cl ((q16_0, .inr (2, [.null, .int 0, .int 0, .int 0, .null, .null])) :: (h0, .inr (6, [f0, f1, f2, f3, f4, f5, f6, f7, f8, f9, f10])) :: ws) H := hP
  have hD : va_D A ((q16_0, .inr (2, [.null, .int 0, .int 0, .int 0, .null, .null])) :: (h0, .inr (6, [f0, f1, f2, f3, f4, f5, f6, f7, f8, f9, f10])) :: ws) := hD
  refine lv_dup hx hb dX7_init_19 rfl ?_
  have hSo := hS
  have hP : va_P D z_cl ((q16_0, .inr (2, [.null, .int 0, .int 0, .int 0, .null, .null])) :: ((h0, .inr (6, [f0, f1, f2, f3, f4, f5, f6, f7, f8, f9, f10])) :: ws)) H := hP
  have hD : va_D A ((q16_0, .inr (2, [.null, .int 0, .int 0, .int 0, .null, .null])) :: ((h0, .inr (6, [f0, f1, f2, f3, f4, f5, f6, f7, f8, f9, f10])) :: ws)) := hD
  have hDo := hD
  refine va_callv (va_runI (As := []) (rest := [.ref q16_0, .ref h0]) ⟨hx, hb, hml, hown, hg⟩ (in_X3_init l D q16_0  ((h0, .inr (6, [f0, f1, f2, f3, f4, f5, f6, f7, f8, f9, f10])) :: ws) H.size) (cwI 0 hg (z_gi (z_g 103 (by decide +kernel) rfl)) rfl rfl rfl (hg _ (z_g 47 (by decide +kernel) rfl)) (hg _ (z_g 101 (by decide +kernel) rfl)) (hg _ (z_g 102 (by decide +kernel) rfl)) rfl (by decide +kernel) ⟨(by omega), (by omega)⟩) ⟨fun a U g mk q => by obtain ⟨r0, r1, rP, rK, rD⟩ := q; exact ⟨r0, r1, rP, va_K.moved (u := U) (U := U.calling g mk a) (Vm.Alike.refl U.vm) rK, rD⟩, fun U hU hW => ⟨rfl, by rw [hU], by rw [hU]; exact hP, va_K.moved hW.alike hK0, hD.weaken (fun _ _ _ _ => trivial)⟩⟩ rfl rfl hl.1 rfl (lv_room (Nat.le_of_ble_eq_true rfl)) dX7_init_20 ⟨(by omega), (by omega)⟩) hS (fun x _ h => z_Asub hD hS hA x h) (fun x h => z_Asub hD hS hA x h) (fun u t H locs ht hvm _ hB hz1 hk1 hS => ?_)
  obtain ⟨q3_20_1, q11_20_1, q19_20_1, c3_20_1, c11_20_1, c19_20_1, hP, hK1, hD⟩ := hB
  rw [ht] at hP
  have hK := hK.app (va_K.moved hvm.symm hK1)
  have hD := hD.weaken (fun _ _ _ h => z_Asub hDo hSo hA _ h)
  have hP : va_P D z_cl (((((q16_0, .inr (2, [.ref q3_20_1, .int 0, .int (-1), .int 0, .ref q11_20_1, .ref q19_20_1])) :: (h0, .inr (6, [f0, f1, f2, f3, f4, f5, f6, f7, f8, f9, f10])) :: ws) ++ [(q3_20_1, .inl (c3_20_1, (23, .inl (fun _ => 0))))]) ++ [(q11_20_1, .inl (c11_20_1, (6, .inl (fun _ => 0))))]) ++ [(q19_20_1, .inl (c19_20_1, (6, .inl (fun _ => 0))))]) H := hP
  have hD : va_D A (((((q16_0, .inr (2, [.ref q3_20_1, .int 0, .int (-1), .int 0, .ref q11_20_1, .ref q19_20_1])) :: (h0, .inr (6, [f0, f1, f2, f3, f4, f5, f6, f7, f8, f9, f10])) :: ws) ++ [(q3_20_1, .inl (c3_20_1, (23, .inl (fun _ => 0))))]) ++ [(q11_20_1, .inl (c11_20_1, (6, .inl (fun _ => 0))))]) ++ [(q19_20_1, .inl (c19_20_1, (6, .inl (fun _ => 0))))]) := hD
  refine va_putF (ci := 6) (v := .ref q16_0) (ty := .object "NineBooks$Kings") (C := RX7) (T := TX7) (N := 11) hx hb hg z_inX7 tyX7 tyX7_ok nmX7 hown hK hP hD hS 1 rfl rfl 1 (by decide) (hg _ (z_g 169 (by decide +kernel) rfl)) (fun _ h9 => h9) rfl hin rfl (by decide +kernel) rfl rfl (Nat.le_of_ble_eq_true rfl) dX7_init_23 (fun H locs hP hD hS => ?_)
  have hP : va_P D z_cl (((((q16_0, .inr (2, [.ref q3_20_1, .int 0, .int (-1), .int 0, .ref q11_20_1, .ref q19_20_1])) :: (h0, .inr (6, [f0, .ref q16_0, f2, f3, f4, f5, f6, f7, f8, f9, f10])) :: ws) ++ [(q3_20_1, .inl (c3_20_1, (23, .inl (fun _ => 0))))]) ++ [(q11_20_1, .inl (c11_20_1, (6, .inl (fun _ => 0))))]) ++ [(q19_20_1, .inl (c19_20_1, (6, .inl (fun _ => 0))))]) H := hP
  have hD : va_D A (((((q16_0, .inr (2, [.ref q3_20_1, .int 0, .int (-1), .int 0, .ref q11_20_1, .ref q19_20_1])) :: (h0, .inr (6, [f0, .ref q16_0, f2, f3, f4, f5, f6, f7, f8, f9, f10])) :: ws) ++ [(q3_20_1, .inl (c3_20_1, (23, .inl (fun _ => 0))))]) ++ [(q11_20_1, .inl (c11_20_1, (6, .inl (fun _ => 0))))]) ++ [(q19_20_1, .inl (c19_20_1, (6, .inl (fun _ => 0))))]) := hD
  have hP := va_P.swap (a := []) (b := [(q16_0, .inr (2, [.ref q3_20_1, .int 0, .int (-1), .int 0, .ref q11_20_1, .ref q19_20_1]))]) (c := (((((h0, .inr (6, [f0, .ref q16_0, f2, f3, f4, f5, f6, f7, f8, f9, f10])) :: ws) ++ [(q3_20_1, .inl (c3_20_1, (23, .inl (fun _ => 0))))]) ++ [(q11_20_1, .inl (c11_20_1, (6, .inl (fun _ => 0))))]) ++ [(q19_20_1, .inl (c19_20_1, (6, .inl (fun _ => 0))))])) hP
  have hD := va_D.swap (a := []) (b := [(q16_0, .inr (2, [.ref q3_20_1, .int 0, .int (-1), .int 0, .ref q11_20_1, .ref q19_20_1]))]) (c := (((((h0, .inr (6, [f0, .ref q16_0, f2, f3, f4, f5, f6, f7, f8, f9, f10])) :: ws) ++ [(q3_20_1, .inl (c3_20_1, (23, .inl (fun _ => 0))))]) ++ [(q11_20_1, .inl (c11_20_1, (6, .inl (fun _ => 0))))]) ++ [(q19_20_1, .inl (c19_20_1, (6, .inl (fun _ => 0))))])) hD
  have hP : va_P D z_cl ((((((h0, .inr (6, [f0, .ref q16_0, f2, f3, f4, f5, f6, f7, f8, f9, f10])) :: ws) ++ [(q3_20_1, .inl (c3_20_1, (23, .inl (fun _ => 0))))]) ++ [(q11_20_1, .inl (c11_20_1, (6, .inl (fun _ => 0))))]) ++ [(q19_20_1, .inl (c19_20_1, (6, .inl (fun _ => 0))))]) ++ [(q16_0, .inr (2, [.ref q3_20_1, .int 0, .int (-1), .int 0, .ref q11_20_1, .ref q19_20_1]))]) H := hP
  have hD : va_D A ((((((h0, .inr (6, [f0, .ref q16_0, f2, f3, f4, f5, f6, f7, f8, f9, f10])) :: ws) ++ [(q3_20_1, .inl (c3_20_1, (23, .inl (fun _ => 0))))]) ++ [(q11_20_1, .inl (c11_20_1, (6, .inl (fun _ => 0))))]) ++ [(q19_20_1, .inl (c19_20_1, (6, .inl (fun _ => 0))))]) ++ [(q16_0, .inr (2, [.ref q3_20_1, .int 0, .int (-1), .int 0, .ref q11_20_1, .ref q19_20_1]))]) := hD
  refine W.widen (k := cells + 4) (n := slots + 41) (by omega) (by omega) ?_
  exact kk q16_0 q3_20_1 q11_20_1 q19_20_1 c3_20_1 c11_20_1 c19_20_1 H locs hP hD hS (hK.sub [0, 1, 2] rfl)
set_option maxHeartbeats 4000000 in
set_option maxRecDepth 100000 in
theorem sg_X7_init_26 {p : Program} {l : Launch} {e : Env} {R : Room} {s : State} {m : MethodId} {args : Array Value} {below : List Frame} {meth : Method} {c : Code} {H : Heap} {locs : List Loc} {cells slots : Nat} {Q : State → Prop} {ls : Array Slot} {D : va_G} {A : Nat → Prop} (h0 : Nat) (f0 f1 f2 f3 f4 f5 f6 f7 f8 f9 f10 : Value) (ws : va_W) (hx : p.tables.exec = Jvm.exec) (hb : c.code = cX7_init) (hml : c.maxLocals = 2) (hg : ∀ w ∈ lw_g, w.before args s = true) (hown : s.vm.findClass RX7 = some m.cls) (hin : meth.name = "<init>") (hK0 : va_K D z_cl [] s) (hA : ∀ q : Nat, s.heap.size ≤ q → A q) (hAO : va_AO "NineBooks$Sheet" s) (hN : z_nN s) (hRf : 2 ≤ R.frames) (hRl : 32 ≤ R.locals) (hRc : cells + 2 ≤ R.cells) (hRs : slots + 12 ≤ R.slots) (hl : lv_has ls 2 [(0, .ref h0)]) (hS : va_S A s.heap H locs) (hP : va_P D z_cl ((h0, .inr (6, [f0, f1, f2, f3, f4, f5, f6, f7, f8, f9, f10])) :: ws) H) (hD : va_D A ((h0, .inr (6, [f0, f1, f2, f3, f4, f5, f6, f7, f8, f9, f10])) :: ws)) (kk : ∀ (q27_0 q7_31_1 : Nat) (c7_31_1 : ClassId) (H : Heap) (locs : List Loc), va_P D z_cl ((((h0, .inr (6, [f0, f1, .ref q27_0, f3, f4, f5, f6, f7, f8, f9, f10])) :: ws) ++ [(q7_31_1, .inl (c7_31_1, (9, .inl (fun _ => 0))))]) ++ [(q27_0, .inr (1, [.ref q7_31_1, .int 0, .int 0]))]) H → va_D A ((((h0, .inr (6, [f0, f1, .ref q27_0, f3, f4, f5, f6, f7, f8, f9, f10])) :: ws) ++ [(q7_31_1, .inl (c7_31_1, (9, .inl (fun _ => 0))))]) ++ [(q27_0, .inr (1, [.ref q7_31_1, .int 0, .int 0]))]) → va_S A s.heap H locs → va_K D z_cl [(c7_31_1, .int)] s → W p l e R s m args below meth c H locs (cells + 2) (slots + 12) Q (F0 m 37 ls [])) : W p l e R s m args below meth c H locs cells slots Q (F0 m 26 ls []) := by
  have hK := hK0
  refine lv_aload_n hx hb dX7_init_26 rfl (lv_at hl 0 rfl) ?_
  refine va_new (ci := 1) (fs := [.null, .int 0, .int 0]) (C := RX1) (T := TX1) (N := 3) hx hb hg z_inX1 tyX1 tyX1_ok hown (hg _ (z_g 116 (by decide +kernel) rfl)) (hg _ (z_g 117 (by decide +kernel) rfl)) (hg _ (z_g 48 (by decide +kernel) rfl)) hK hP hD hS hA rfl (fun j hj => by rcases (show j = 0 ∨ j = 1 ∨ j = 2 by omega) with rfl | rfl | rfl <;> rfl) (by omega) (by omega) dX7_init_27 (fun q27_0 H hP hD hS => ?_)
  have hP := va_P.swap (a := []) hP
  have hD := va_D.swap (a := []) hD
  have hP : va_P D z_cl ((q27_0, .inr (1, [.null, .int 0, .int 0])) :: (h0, .inr (6, [f0, f1, f2, f3, f4, f5, f6, f7, f8, f9, f10])) :: ws) H := hP
  have hD : va_D A ((q27_0, .inr (1, [.null, .int 0, .int 0])) :: (h0, .inr (6, [f0, f1, f2, f3, f4, f5, f6, f7, f8, f9, f10])) :: ws) := hD
  refine lv_dup hx hb dX7_init_30 rfl ?_
  have hSo := hS
  have hP : va_P D z_cl ((q27_0, .inr (1, [.null, .int 0, .int 0])) :: ((h0, .inr (6, [f0, f1, f2, f3, f4, f5, f6, f7, f8, f9, f10])) :: ws)) H := hP
  have hD : va_D A ((q27_0, .inr (1, [.null, .int 0, .int 0])) :: ((h0, .inr (6, [f0, f1, f2, f3, f4, f5, f6, f7, f8, f9, f10])) :: ws)) := hD
  have hDo := hD
  refine va_callv (va_runIN (As := []) (rest := [.ref q27_0, .ref h0]) ⟨hx, hb, hml, hown, hg⟩ (in_X1_init l D q27_0  ((h0, .inr (6, [f0, f1, f2, f3, f4, f5, f6, f7, f8, f9, f10])) :: ws) H.size) (⟨va_cnB (host := "NineBooks") 0 hg (z_gi (z_g 120 (by decide +kernel) rfl)) rfl rfl rfl (hN _ (z_gn 118 (by decide +kernel) rfl)) (hg _ (z_g 48 (by decide +kernel) rfl)) (by decide +kernel) ⟨(by omega), (by omega)⟩, rfl, hg _ (z_g 119 (by decide +kernel) rfl)⟩) ⟨fun a U g mk q => by obtain ⟨r0, r1, rP, rK, rD⟩ := q; exact ⟨r0, r1, rP, va_K.moved (u := U) (U := U.calling g mk a) (Vm.Alike.refl U.vm) rK, rD⟩, fun U hU hW => ⟨rfl, by rw [hU], by rw [hU]; exact hP, va_K.moved hW.alike hK0, hD.weaken (fun _ _ _ _ => trivial)⟩⟩ rfl rfl hl.1 rfl (lv_room (Nat.le_of_ble_eq_true rfl)) dX7_init_31 ⟨(by omega), (by omega)⟩) hS (fun x _ h => z_Asub hD hS hA x h) (fun x h => z_Asub hD hS hA x h) (fun u t H locs ht hvm _ hB hz1 hk1 hS => ?_)
  obtain ⟨q7_31_1, c7_31_1, hP, hK1, hD⟩ := hB
  rw [ht] at hP
  have hK := hK.app (va_K.moved hvm.symm hK1)
  have hD := hD.weaken (fun _ _ _ h => z_Asub hDo hSo hA _ h)
  have hP : va_P D z_cl (((q27_0, .inr (1, [.ref q7_31_1, .int 0, .int 0])) :: (h0, .inr (6, [f0, f1, f2, f3, f4, f5, f6, f7, f8, f9, f10])) :: ws) ++ [(q7_31_1, .inl (c7_31_1, (9, .inl (fun _ => 0))))]) H := hP
  have hD : va_D A (((q27_0, .inr (1, [.ref q7_31_1, .int 0, .int 0])) :: (h0, .inr (6, [f0, f1, f2, f3, f4, f5, f6, f7, f8, f9, f10])) :: ws) ++ [(q7_31_1, .inl (c7_31_1, (9, .inl (fun _ => 0))))]) := hD
  refine va_putF (ci := 6) (v := .ref q27_0) (ty := .object "NineBooks$Burnt") (C := RX7) (T := TX7) (N := 11) hx hb hg z_inX7 tyX7 tyX7_ok nmX7 hown hK hP hD hS 1 rfl rfl 2 (by decide) (hg _ (z_g 170 (by decide +kernel) rfl)) (fun _ h9 => h9) rfl hin rfl (by decide +kernel) rfl rfl (Nat.le_of_ble_eq_true rfl) dX7_init_34 (fun H locs hP hD hS => ?_)
  have hP : va_P D z_cl (((q27_0, .inr (1, [.ref q7_31_1, .int 0, .int 0])) :: (h0, .inr (6, [f0, f1, .ref q27_0, f3, f4, f5, f6, f7, f8, f9, f10])) :: ws) ++ [(q7_31_1, .inl (c7_31_1, (9, .inl (fun _ => 0))))]) H := hP
  have hD : va_D A (((q27_0, .inr (1, [.ref q7_31_1, .int 0, .int 0])) :: (h0, .inr (6, [f0, f1, .ref q27_0, f3, f4, f5, f6, f7, f8, f9, f10])) :: ws) ++ [(q7_31_1, .inl (c7_31_1, (9, .inl (fun _ => 0))))]) := hD
  have hP := va_P.swap (a := []) (b := [(q27_0, .inr (1, [.ref q7_31_1, .int 0, .int 0]))]) (c := (((h0, .inr (6, [f0, f1, .ref q27_0, f3, f4, f5, f6, f7, f8, f9, f10])) :: ws) ++ [(q7_31_1, .inl (c7_31_1, (9, .inl (fun _ => 0))))])) hP
  have hD := va_D.swap (a := []) (b := [(q27_0, .inr (1, [.ref q7_31_1, .int 0, .int 0]))]) (c := (((h0, .inr (6, [f0, f1, .ref q27_0, f3, f4, f5, f6, f7, f8, f9, f10])) :: ws) ++ [(q7_31_1, .inl (c7_31_1, (9, .inl (fun _ => 0))))])) hD
  have hP : va_P D z_cl ((((h0, .inr (6, [f0, f1, .ref q27_0, f3, f4, f5, f6, f7, f8, f9, f10])) :: ws) ++ [(q7_31_1, .inl (c7_31_1, (9, .inl (fun _ => 0))))]) ++ [(q27_0, .inr (1, [.ref q7_31_1, .int 0, .int 0]))]) H := hP
  have hD : va_D A ((((h0, .inr (6, [f0, f1, .ref q27_0, f3, f4, f5, f6, f7, f8, f9, f10])) :: ws) ++ [(q7_31_1, .inl (c7_31_1, (9, .inl (fun _ => 0))))]) ++ [(q27_0, .inr (1, [.ref q7_31_1, .int 0, .int 0]))]) := hD
  refine W.widen (k := cells + 2) (n := slots + 12) (by omega) (by omega) ?_
  exact kk q27_0 q7_31_1 c7_31_1 H locs hP hD hS (hK.sub [0] rfl)
set_option maxHeartbeats 4000000 in
set_option maxRecDepth 100000 in
theorem sg_X7_init_37 {p : Program} {l : Launch} {e : Env} {R : Room} {s : State} {m : MethodId} {args : Array Value} {below : List Frame} {meth : Method} {c : Code} {H : Heap} {locs : List Loc} {cells slots : Nat} {Q : State → Prop} {ls : Array Slot} {D : va_G} {A : Nat → Prop} (h0 : Nat) (f0 f1 f2 f3 f4 f5 f6 f7 f8 f9 f10 : Value) (ws : va_W) (hx : p.tables.exec = Jvm.exec) (hb : c.code = cX7_init) (hml : c.maxLocals = 2) (hg : ∀ w ∈ lw_g, w.before args s = true) (hown : s.vm.findClass RX7 = some m.cls) (hin : meth.name = "<init>") (hK0 : va_K D z_cl [] s) (hA : ∀ q : Nat, s.heap.size ≤ q → A q) (hAO : va_AO "NineBooks$Sheet" s) (hN : z_nN s) (hRf : 2 ≤ R.frames) (hRl : 32 ≤ R.locals) (hRc : cells + 4 ≤ R.cells) (hRs : slots + 28 ≤ R.slots) (hl : lv_has ls 2 [(0, .ref h0)]) (hS : va_S A s.heap H locs) (hP : va_P D z_cl ((h0, .inr (6, [f0, f1, f2, f3, f4, f5, f6, f7, f8, f9, f10])) :: ws) H) (hD : va_D A ((h0, .inr (6, [f0, f1, f2, f3, f4, f5, f6, f7, f8, f9, f10])) :: ws)) (kk : ∀ (q38_0 q7_42_1 q15_42_1 q23_42_1 : Nat) (c7_42_1 c15_42_1 c23_42_1 : ClassId) (H : Heap) (locs : List Loc), va_P D z_cl ((((((h0, .inr (6, [f0, f1, f2, .ref q38_0, f4, f5, f6, f7, f8, f9, f10])) :: ws) ++ [(q7_42_1, .inl (c7_42_1, (8, .inl (fun _ => 0))))]) ++ [(q15_42_1, .inl (c15_42_1, (8, .inl (fun _ => 0))))]) ++ [(q23_42_1, .inl (c23_42_1, (8, .inl (fun _ => 0))))]) ++ [(q38_0, .inr (4, [.ref q7_42_1, .ref q15_42_1, .ref q23_42_1, .int 0]))]) H → va_D A ((((((h0, .inr (6, [f0, f1, f2, .ref q38_0, f4, f5, f6, f7, f8, f9, f10])) :: ws) ++ [(q7_42_1, .inl (c7_42_1, (8, .inl (fun _ => 0))))]) ++ [(q15_42_1, .inl (c15_42_1, (8, .inl (fun _ => 0))))]) ++ [(q23_42_1, .inl (c23_42_1, (8, .inl (fun _ => 0))))]) ++ [(q38_0, .inr (4, [.ref q7_42_1, .ref q15_42_1, .ref q23_42_1, .int 0]))]) → va_S A s.heap H locs → va_K D z_cl [(c7_42_1, .int), (c15_42_1, .int), (c23_42_1, .int)] s → W p l e R s m args below meth c H locs (cells + 4) (slots + 28) Q (F0 m 48 ls [])) : W p l e R s m args below meth c H locs cells slots Q (F0 m 37 ls []) := by
  have hK := hK0
  refine lv_aload_n hx hb dX7_init_37 rfl (lv_at hl 0 rfl) ?_
  refine va_new (ci := 4) (fs := [.null, .null, .null, .int 0]) (C := RX5) (T := TX5) (N := 4) hx hb hg z_inX5 tyX5 tyX5_ok hown (hg _ (z_g 132 (by decide +kernel) rfl)) (hg _ (z_g 133 (by decide +kernel) rfl)) (hg _ (z_g 49 (by decide +kernel) rfl)) hK hP hD hS hA rfl (fun j hj => by rcases (show j = 0 ∨ j = 1 ∨ j = 2 ∨ j = 3 by omega) with rfl | rfl | rfl | rfl <;> rfl) (by omega) (by omega) dX7_init_38 (fun q38_0 H hP hD hS => ?_)
  have hP := va_P.swap (a := []) hP
  have hD := va_D.swap (a := []) hD
  have hP : va_P D z_cl ((q38_0, .inr (4, [.null, .null, .null, .int 0])) :: (h0, .inr (6, [f0, f1, f2, f3, f4, f5, f6, f7, f8, f9, f10])) :: ws) H := hP
  have hD : va_D A ((q38_0, .inr (4, [.null, .null, .null, .int 0])) :: (h0, .inr (6, [f0, f1, f2, f3, f4, f5, f6, f7, f8, f9, f10])) :: ws) := hD
  refine lv_dup hx hb dX7_init_41 rfl ?_
  have hSo := hS
  have hP : va_P D z_cl ((q38_0, .inr (4, [.null, .null, .null, .int 0])) :: ((h0, .inr (6, [f0, f1, f2, f3, f4, f5, f6, f7, f8, f9, f10])) :: ws)) H := hP
  have hD : va_D A ((q38_0, .inr (4, [.null, .null, .null, .int 0])) :: ((h0, .inr (6, [f0, f1, f2, f3, f4, f5, f6, f7, f8, f9, f10])) :: ws)) := hD
  have hDo := hD
  refine va_callv (va_runIN (As := []) (rest := [.ref q38_0, .ref h0]) ⟨hx, hb, hml, hown, hg⟩ (in_X5_init l D q38_0  ((h0, .inr (6, [f0, f1, f2, f3, f4, f5, f6, f7, f8, f9, f10])) :: ws) H.size) (⟨va_cnB (host := "NineBooks") 0 hg (z_gi (z_g 136 (by decide +kernel) rfl)) rfl rfl rfl (hN _ (z_gn 134 (by decide +kernel) rfl)) (hg _ (z_g 49 (by decide +kernel) rfl)) (by decide +kernel) ⟨(by omega), (by omega)⟩, rfl, hg _ (z_g 135 (by decide +kernel) rfl)⟩) ⟨fun a U g mk q => by obtain ⟨r0, r1, rP, rK, rD⟩ := q; exact ⟨r0, r1, rP, va_K.moved (u := U) (U := U.calling g mk a) (Vm.Alike.refl U.vm) rK, rD⟩, fun U hU hW => ⟨rfl, by rw [hU], by rw [hU]; exact hP, va_K.moved hW.alike hK0, hD.weaken (fun _ _ _ _ => trivial)⟩⟩ rfl rfl hl.1 rfl (lv_room (Nat.le_of_ble_eq_true rfl)) dX7_init_42 ⟨(by omega), (by omega)⟩) hS (fun x _ h => z_Asub hD hS hA x h) (fun x h => z_Asub hD hS hA x h) (fun u t H locs ht hvm _ hB hz1 hk1 hS => ?_)
  obtain ⟨q7_42_1, q15_42_1, q23_42_1, c7_42_1, c15_42_1, c23_42_1, hP, hK1, hD⟩ := hB
  rw [ht] at hP
  have hK := hK.app (va_K.moved hvm.symm hK1)
  have hD := hD.weaken (fun _ _ _ h => z_Asub hDo hSo hA _ h)
  have hP : va_P D z_cl (((((q38_0, .inr (4, [.ref q7_42_1, .ref q15_42_1, .ref q23_42_1, .int 0])) :: (h0, .inr (6, [f0, f1, f2, f3, f4, f5, f6, f7, f8, f9, f10])) :: ws) ++ [(q7_42_1, .inl (c7_42_1, (8, .inl (fun _ => 0))))]) ++ [(q15_42_1, .inl (c15_42_1, (8, .inl (fun _ => 0))))]) ++ [(q23_42_1, .inl (c23_42_1, (8, .inl (fun _ => 0))))]) H := hP
  have hD : va_D A (((((q38_0, .inr (4, [.ref q7_42_1, .ref q15_42_1, .ref q23_42_1, .int 0])) :: (h0, .inr (6, [f0, f1, f2, f3, f4, f5, f6, f7, f8, f9, f10])) :: ws) ++ [(q7_42_1, .inl (c7_42_1, (8, .inl (fun _ => 0))))]) ++ [(q15_42_1, .inl (c15_42_1, (8, .inl (fun _ => 0))))]) ++ [(q23_42_1, .inl (c23_42_1, (8, .inl (fun _ => 0))))]) := hD
  refine va_putF (ci := 6) (v := .ref q38_0) (ty := .object "NineBooks$Sayings") (C := RX7) (T := TX7) (N := 11) hx hb hg z_inX7 tyX7 tyX7_ok nmX7 hown hK hP hD hS 1 rfl rfl 3 (by decide) (hg _ (z_g 171 (by decide +kernel) rfl)) (fun _ h9 => h9) rfl hin rfl (by decide +kernel) rfl rfl (Nat.le_of_ble_eq_true rfl) dX7_init_45 (fun H locs hP hD hS => ?_)
  have hP : va_P D z_cl (((((q38_0, .inr (4, [.ref q7_42_1, .ref q15_42_1, .ref q23_42_1, .int 0])) :: (h0, .inr (6, [f0, f1, f2, .ref q38_0, f4, f5, f6, f7, f8, f9, f10])) :: ws) ++ [(q7_42_1, .inl (c7_42_1, (8, .inl (fun _ => 0))))]) ++ [(q15_42_1, .inl (c15_42_1, (8, .inl (fun _ => 0))))]) ++ [(q23_42_1, .inl (c23_42_1, (8, .inl (fun _ => 0))))]) H := hP
  have hD : va_D A (((((q38_0, .inr (4, [.ref q7_42_1, .ref q15_42_1, .ref q23_42_1, .int 0])) :: (h0, .inr (6, [f0, f1, f2, .ref q38_0, f4, f5, f6, f7, f8, f9, f10])) :: ws) ++ [(q7_42_1, .inl (c7_42_1, (8, .inl (fun _ => 0))))]) ++ [(q15_42_1, .inl (c15_42_1, (8, .inl (fun _ => 0))))]) ++ [(q23_42_1, .inl (c23_42_1, (8, .inl (fun _ => 0))))]) := hD
  have hP := va_P.swap (a := []) (b := [(q38_0, .inr (4, [.ref q7_42_1, .ref q15_42_1, .ref q23_42_1, .int 0]))]) (c := (((((h0, .inr (6, [f0, f1, f2, .ref q38_0, f4, f5, f6, f7, f8, f9, f10])) :: ws) ++ [(q7_42_1, .inl (c7_42_1, (8, .inl (fun _ => 0))))]) ++ [(q15_42_1, .inl (c15_42_1, (8, .inl (fun _ => 0))))]) ++ [(q23_42_1, .inl (c23_42_1, (8, .inl (fun _ => 0))))])) hP
  have hD := va_D.swap (a := []) (b := [(q38_0, .inr (4, [.ref q7_42_1, .ref q15_42_1, .ref q23_42_1, .int 0]))]) (c := (((((h0, .inr (6, [f0, f1, f2, .ref q38_0, f4, f5, f6, f7, f8, f9, f10])) :: ws) ++ [(q7_42_1, .inl (c7_42_1, (8, .inl (fun _ => 0))))]) ++ [(q15_42_1, .inl (c15_42_1, (8, .inl (fun _ => 0))))]) ++ [(q23_42_1, .inl (c23_42_1, (8, .inl (fun _ => 0))))])) hD
  have hP : va_P D z_cl ((((((h0, .inr (6, [f0, f1, f2, .ref q38_0, f4, f5, f6, f7, f8, f9, f10])) :: ws) ++ [(q7_42_1, .inl (c7_42_1, (8, .inl (fun _ => 0))))]) ++ [(q15_42_1, .inl (c15_42_1, (8, .inl (fun _ => 0))))]) ++ [(q23_42_1, .inl (c23_42_1, (8, .inl (fun _ => 0))))]) ++ [(q38_0, .inr (4, [.ref q7_42_1, .ref q15_42_1, .ref q23_42_1, .int 0]))]) H := hP
  have hD : va_D A ((((((h0, .inr (6, [f0, f1, f2, .ref q38_0, f4, f5, f6, f7, f8, f9, f10])) :: ws) ++ [(q7_42_1, .inl (c7_42_1, (8, .inl (fun _ => 0))))]) ++ [(q15_42_1, .inl (c15_42_1, (8, .inl (fun _ => 0))))]) ++ [(q23_42_1, .inl (c23_42_1, (8, .inl (fun _ => 0))))]) ++ [(q38_0, .inr (4, [.ref q7_42_1, .ref q15_42_1, .ref q23_42_1, .int 0]))]) := hD
  refine W.widen (k := cells + 4) (n := slots + 28) (by omega) (by omega) ?_
  exact kk q38_0 q7_42_1 q15_42_1 q23_42_1 c7_42_1 c15_42_1 c23_42_1 H locs hP hD hS (hK.sub [0, 1, 2] rfl)
set_option maxHeartbeats 4000000 in
set_option maxRecDepth 100000 in
theorem sg_X7_init_48 {p : Program} {l : Launch} {e : Env} {R : Room} {s : State} {m : MethodId} {args : Array Value} {below : List Frame} {meth : Method} {c : Code} {H : Heap} {locs : List Loc} {cells slots : Nat} {Q : State → Prop} {ls : Array Slot} {D : va_G} {A : Nat → Prop} (h0 : Nat) (f0 f1 f2 f3 f4 f5 f6 f7 f8 f9 f10 : Value) (ws : va_W) (hx : p.tables.exec = Jvm.exec) (hb : c.code = cX7_init) (hml : c.maxLocals = 2) (hg : ∀ w ∈ lw_g, w.before args s = true) (hown : s.vm.findClass RX7 = some m.cls) (hin : meth.name = "<init>") (hK0 : va_K D z_cl [] s) (hA : ∀ q : Nat, s.heap.size ≤ q → A q) (hAO : va_AO "NineBooks$Sheet" s) (hN : z_nN s) (hRf : 1 ≤ R.frames) (hRl : 12 ≤ R.locals) (hRc : cells + 1 ≤ R.cells) (hRs : slots + 4 ≤ R.slots) (hl : lv_has ls 2 [(0, .ref h0)]) (hS : va_S A s.heap H locs) (hP : va_P D z_cl ((h0, .inr (6, [f0, f1, f2, f3, f4, f5, f6, f7, f8, f9, f10])) :: ws) H) (hD : va_D A ((h0, .inr (6, [f0, f1, f2, f3, f4, f5, f6, f7, f8, f9, f10])) :: ws)) (kk : ∀ (q50 : Nat) (c50 : ClassId) (H : Heap) (locs : List Loc), va_P D z_cl ((h0, .inr (6, [f0, f1, f2, f3, .ref q50, f5, f6, f7, f8, f9, f10])) :: (q50, .inl (c50, 4, .inr (.inr (.inr (.inr (fun _ => none)))))) :: ws) H → va_D A ((h0, .inr (6, [f0, f1, f2, f3, .ref q50, f5, f6, f7, f8, f9, f10])) :: (q50, .inl (c50, 4, .inr (.inr (.inr (.inr (fun _ => none)))))) :: ws) → va_S A s.heap H locs → va_K D z_cl [(c50, .object "NineBooks$Sheet")] s → W p l e R s m args below meth c H locs (cells + 1) (slots + 4) Q (F0 m 56 ls [])) : W p l e R s m args below meth c H locs cells slots Q (F0 m 48 ls []) := by
  have hK := hK0
  refine lv_aload_n hx hb dX7_init_48 rfl (lv_at hl 0 rfl) ?_
  refine lv_iconst hx hb (v := 4) dX7_init_49 zi_4 ?_
  refine va_newq hx hb hown (hg _ (z_g 151 (by decide +kernel) rfl)) hAO hK hP hD hS hA (n := 4) (N' := 4) (by decide) (by decide) (by decide) (by omega) (by omega) dX7_init_50 (fun q50 c50 H hK hP hD hS => ?_)
  have hP := va_P.swap (a := []) hP
  have hD := va_D.swap (a := []) hD
  have hP : va_P D z_cl ((q50, .inl (c50, 4, .inr (.inr (.inr (.inr (fun _ => none)))))) :: (h0, .inr (6, [f0, f1, f2, f3, f4, f5, f6, f7, f8, f9, f10])) :: ws) H := hP
  have hD : va_D A ((q50, .inl (c50, 4, .inr (.inr (.inr (.inr (fun _ => none)))))) :: (h0, .inr (6, [f0, f1, f2, f3, f4, f5, f6, f7, f8, f9, f10])) :: ws) := hD
  refine va_putF (ci := 6) (v := .ref q50) (ty := .array (.object "NineBooks$Sheet")) (C := RX7) (T := TX7) (N := 11) hx hb hg z_inX7 tyX7 tyX7_ok nmX7 hown hK hP hD hS 1 rfl rfl 4 (by decide) (hg _ (z_g 172 (by decide +kernel) rfl)) (fun _ h9 => h9) rfl hin rfl (by decide +kernel) rfl rfl (Nat.le_of_ble_eq_true rfl) dX7_init_53 (fun H locs hP hD hS => ?_)
  have hP : va_P D z_cl ((q50, .inl (c50, 4, .inr (.inr (.inr (.inr (fun _ => none)))))) :: (h0, .inr (6, [f0, f1, f2, f3, .ref q50, f5, f6, f7, f8, f9, f10])) :: ws) H := hP
  have hD : va_D A ((q50, .inl (c50, 4, .inr (.inr (.inr (.inr (fun _ => none)))))) :: (h0, .inr (6, [f0, f1, f2, f3, .ref q50, f5, f6, f7, f8, f9, f10])) :: ws) := hD
  have hP := va_P.swap (a := []) (b := [(q50, .inl (c50, 4, .inr (.inr (.inr (.inr (fun _ => none))))))]) (c := ((h0, .inr (6, [f0, f1, f2, f3, .ref q50, f5, f6, f7, f8, f9, f10])) :: ws)) hP
  have hD := va_D.swap (a := []) (b := [(q50, .inl (c50, 4, .inr (.inr (.inr (.inr (fun _ => none))))))]) (c := ((h0, .inr (6, [f0, f1, f2, f3, .ref q50, f5, f6, f7, f8, f9, f10])) :: ws)) hD
  have hP := va_P.swap (a := [(h0, .inr (6, [f0, f1, f2, f3, .ref q50, f5, f6, f7, f8, f9, f10]))]) (b := ws) (c := [(q50, .inl (c50, 4, .inr (.inr (.inr (.inr (fun _ => none))))))]) hP
  have hD := va_D.swap (a := [(h0, .inr (6, [f0, f1, f2, f3, .ref q50, f5, f6, f7, f8, f9, f10]))]) (b := ws) (c := [(q50, .inl (c50, 4, .inr (.inr (.inr (.inr (fun _ => none))))))]) hD
  have hP : va_P D z_cl ((h0, .inr (6, [f0, f1, f2, f3, .ref q50, f5, f6, f7, f8, f9, f10])) :: (q50, .inl (c50, 4, .inr (.inr (.inr (.inr (fun _ => none)))))) :: ws) H := hP
  have hD : va_D A ((h0, .inr (6, [f0, f1, f2, f3, .ref q50, f5, f6, f7, f8, f9, f10])) :: (q50, .inl (c50, 4, .inr (.inr (.inr (.inr (fun _ => none)))))) :: ws) := hD
  refine W.widen (k := cells + 1) (n := slots + 4) (by omega) (by omega) ?_
  exact kk q50 c50 H locs hP hD hS (hK.sub [0] rfl)
set_option maxHeartbeats 4000000 in
set_option maxRecDepth 100000 in
theorem sg_X7_init_56 {p : Program} {l : Launch} {e : Env} {R : Room} {s : State} {m : MethodId} {args : Array Value} {below : List Frame} {meth : Method} {c : Code} {H : Heap} {locs : List Loc} {cells slots : Nat} {Q : State → Prop} {ls : Array Slot} {D : va_G} {A : Nat → Prop} (h0 : Nat) (f0 f1 f2 f3 f5 f6 f7 f8 f9 f10 : Value) (ws : va_W) (sa : Nat) (cS : ClassId) (af : Nat → Option Nat) (hKs : va_K D z_cl [(cS, .object "NineBooks$Sheet")] s) (hx : p.tables.exec = Jvm.exec) (hb : c.code = cX7_init) (hml : c.maxLocals = 2) (hg : ∀ w ∈ lw_g, w.before args s = true) (hown : s.vm.findClass RX7 = some m.cls) (hin : meth.name = "<init>") (hK0 : va_K D z_cl [] s) (hA : ∀ q : Nat, s.heap.size ≤ q → A q) (hAO : va_AO "NineBooks$Sheet" s) (hN : z_nN s) (hRf : 1 ≤ R.frames) (hRl : 12 ≤ R.locals) (hRc : cells + 0 ≤ R.cells) (hRs : slots + 0 ≤ R.slots) (hl : lv_has ls 2 [(0, .ref h0)]) (hS : va_S A s.heap H locs) (hP : va_P D z_cl ((h0, .inr (6, [f0, f1, f2, f3, .ref sa, f5, f6, f7, f8, f9, f10])) :: (sa, .inl (cS, 4, .inr (.inr (.inr (.inr af))))) :: ws) H) (hD : va_D A ((h0, .inr (6, [f0, f1, f2, f3, .ref sa, f5, f6, f7, f8, f9, f10])) :: (sa, .inl (cS, 4, .inr (.inr (.inr (.inr af))))) :: ws)) (kk : ∀ (H : Heap) (locs : List Loc) (ls : Array Slot), va_P D z_cl ((h0, .inr (6, [f0, f1, f2, f3, .ref sa, .int 30, .int 3, .int 8, .int 0, .int 0, .int 0])) :: (sa, .inl (cS, 4, .inr (.inr (.inr (.inr af))))) :: ws) H → va_D A ((h0, .inr (6, [f0, f1, f2, f3, .ref sa, .int 30, .int 3, .int 8, .int 0, .int 0, .int 0])) :: (sa, .inl (cS, 4, .inr (.inr (.inr (.inr af))))) :: ws) → va_S A s.heap H locs → va_K D z_cl [] s → lv_has ls 2 [(1, .int 0), (0, .ref h0)] → W p l e R s m args below meth c H locs (cells + 0) (slots + 0) Q (F0 m 90 ls [])) : W p l e R s m args below meth c H locs cells slots Q (F0 m 56 ls []) := by
  have hK := hKs
  refine lv_aload_n hx hb dX7_init_56 rfl (lv_at hl 0 rfl) ?_
  refine lv_bipush hx hb (v := 30) dX7_init_57 zb_30 ?_
  refine va_put (ci := 6) (v := .int 30) (ty := .int) (C := RX7) (T := TX7) (N := 11) hx hb hg z_inX7 tyX7 tyX7_ok nmX7 hown hK hP hD hS 0 rfl rfl 5 (by decide) (hg _ (z_g 173 (by decide +kernel) rfl)) (fun _ h9 => h9) rfl (by decide +kernel) rfl rfl (Nat.le_of_ble_eq_true rfl) dX7_init_59 (fun H locs hP hD hS => ?_)
  have hP : va_P D z_cl ((h0, .inr (6, [f0, f1, f2, f3, .ref sa, .int 30, f6, f7, f8, f9, f10])) :: (sa, .inl (cS, 4, .inr (.inr (.inr (.inr af))))) :: ws) H := hP
  have hD : va_D A ((h0, .inr (6, [f0, f1, f2, f3, .ref sa, .int 30, f6, f7, f8, f9, f10])) :: (sa, .inl (cS, 4, .inr (.inr (.inr (.inr af))))) :: ws) := hD
  refine lv_aload_n hx hb dX7_init_62 rfl (lv_at hl 0 rfl) ?_
  refine lv_iconst hx hb (v := 3) dX7_init_63 zi_3 ?_
  refine va_put (ci := 6) (v := .int 3) (ty := .int) (C := RX7) (T := TX7) (N := 11) hx hb hg z_inX7 tyX7 tyX7_ok nmX7 hown hK hP hD hS 0 rfl rfl 6 (by decide) (hg _ (z_g 174 (by decide +kernel) rfl)) (fun _ h9 => h9) rfl (by decide +kernel) rfl rfl (Nat.le_of_ble_eq_true rfl) dX7_init_64 (fun H locs hP hD hS => ?_)
  have hP : va_P D z_cl ((h0, .inr (6, [f0, f1, f2, f3, .ref sa, .int 30, .int 3, f7, f8, f9, f10])) :: (sa, .inl (cS, 4, .inr (.inr (.inr (.inr af))))) :: ws) H := hP
  have hD : va_D A ((h0, .inr (6, [f0, f1, f2, f3, .ref sa, .int 30, .int 3, f7, f8, f9, f10])) :: (sa, .inl (cS, 4, .inr (.inr (.inr (.inr af))))) :: ws) := hD
  refine lv_aload_n hx hb dX7_init_67 rfl (lv_at hl 0 rfl) ?_
  refine lv_bipush hx hb (v := 8) dX7_init_68 zb_8 ?_
  refine va_put (ci := 6) (v := .int 8) (ty := .int) (C := RX7) (T := TX7) (N := 11) hx hb hg z_inX7 tyX7 tyX7_ok nmX7 hown hK hP hD hS 0 rfl rfl 7 (by decide) (hg _ (z_g 175 (by decide +kernel) rfl)) (fun _ h9 => h9) rfl (by decide +kernel) rfl rfl (Nat.le_of_ble_eq_true rfl) dX7_init_70 (fun H locs hP hD hS => ?_)
  have hP : va_P D z_cl ((h0, .inr (6, [f0, f1, f2, f3, .ref sa, .int 30, .int 3, .int 8, f8, f9, f10])) :: (sa, .inl (cS, 4, .inr (.inr (.inr (.inr af))))) :: ws) H := hP
  have hD : va_D A ((h0, .inr (6, [f0, f1, f2, f3, .ref sa, .int 30, .int 3, .int 8, f8, f9, f10])) :: (sa, .inl (cS, 4, .inr (.inr (.inr (.inr af))))) :: ws) := hD
  refine lv_aload_n hx hb dX7_init_73 rfl (lv_at hl 0 rfl) ?_
  refine lv_iconst hx hb (v := 0) dX7_init_74 zi_0 ?_
  refine va_put (ci := 6) (v := .int 0) (ty := .int) (C := RX7) (T := TX7) (N := 11) hx hb hg z_inX7 tyX7 tyX7_ok nmX7 hown hK hP hD hS 0 rfl rfl 8 (by decide) (hg _ (z_g 176 (by decide +kernel) rfl)) (fun _ h9 => h9) rfl (by decide +kernel) rfl rfl (Nat.le_of_ble_eq_true rfl) dX7_init_75 (fun H locs hP hD hS => ?_)
  have hP : va_P D z_cl ((h0, .inr (6, [f0, f1, f2, f3, .ref sa, .int 30, .int 3, .int 8, .int 0, f9, f10])) :: (sa, .inl (cS, 4, .inr (.inr (.inr (.inr af))))) :: ws) H := hP
  have hD : va_D A ((h0, .inr (6, [f0, f1, f2, f3, .ref sa, .int 30, .int 3, .int 8, .int 0, f9, f10])) :: (sa, .inl (cS, 4, .inr (.inr (.inr (.inr af))))) :: ws) := hD
  refine lv_aload_n hx hb dX7_init_78 rfl (lv_at hl 0 rfl) ?_
  refine lv_iconst hx hb (v := 0) dX7_init_79 zi_0 ?_
  refine va_put (ci := 6) (v := .int 0) (ty := .int) (C := RX7) (T := TX7) (N := 11) hx hb hg z_inX7 tyX7 tyX7_ok nmX7 hown hK hP hD hS 0 rfl rfl 9 (by decide) (hg _ (z_g 177 (by decide +kernel) rfl)) (fun _ h9 => h9) rfl (by decide +kernel) rfl rfl (Nat.le_of_ble_eq_true rfl) dX7_init_80 (fun H locs hP hD hS => ?_)
  have hP : va_P D z_cl ((h0, .inr (6, [f0, f1, f2, f3, .ref sa, .int 30, .int 3, .int 8, .int 0, .int 0, f10])) :: (sa, .inl (cS, 4, .inr (.inr (.inr (.inr af))))) :: ws) H := hP
  have hD : va_D A ((h0, .inr (6, [f0, f1, f2, f3, .ref sa, .int 30, .int 3, .int 8, .int 0, .int 0, f10])) :: (sa, .inl (cS, 4, .inr (.inr (.inr (.inr af))))) :: ws) := hD
  refine lv_aload_n hx hb dX7_init_83 rfl (lv_at hl 0 rfl) ?_
  refine lv_iconst hx hb (v := 0) dX7_init_84 zi_0 ?_
  refine va_put (ci := 6) (v := .int 0) (ty := .int) (C := RX7) (T := TX7) (N := 11) hx hb hg z_inX7 tyX7 tyX7_ok nmX7 hown hK hP hD hS 0 rfl rfl 10 (by decide) (hg _ (z_g 178 (by decide +kernel) rfl)) (fun _ h9 => h9) rfl (by decide +kernel) rfl rfl (Nat.le_of_ble_eq_true rfl) dX7_init_85 (fun H locs hP hD hS => ?_)
  have hP : va_P D z_cl ((h0, .inr (6, [f0, f1, f2, f3, .ref sa, .int 30, .int 3, .int 8, .int 0, .int 0, .int 0])) :: (sa, .inl (cS, 4, .inr (.inr (.inr (.inr af))))) :: ws) H := hP
  have hD : va_D A ((h0, .inr (6, [f0, f1, f2, f3, .ref sa, .int 30, .int 3, .int 8, .int 0, .int 0, .int 0])) :: (sa, .inl (cS, 4, .inr (.inr (.inr (.inr af))))) :: ws) := hD
  refine lv_iconst hx hb (v := 0) dX7_init_88 zi_0 ?_
  refine lv_istore_n hx hb (lv' := [(1, .int 0), (0, .ref h0)]) dX7_init_89 rfl hl (by decide) rfl (fun ls hl => ?_)
  refine W.widen (k := cells + 0) (n := slots + 0) (by omega) (by omega) ?_
  exact kk  H locs ls hP hD hS (hK.sub [] rfl) hl
set_option maxHeartbeats 4000000 in
set_option maxRecDepth 100000 in
theorem sg_X7_init_90 {p : Program} {l : Launch} {e : Env} {R : Room} {s : State} {m : MethodId} {args : Array Value} {below : List Frame} {meth : Method} {c : Code} {H : Heap} {locs : List Loc} {cells slots : Nat} {Q : State → Prop} {ls : Array Slot} {D : va_G} {A : Nat → Prop} (h0 : Nat) (f0 f1 f2 f3 f5 f6 f7 f8 f9 f10 : Value) (ws : va_W) (sa : Nat) (cS : ClassId) (af : Nat → Option Nat) (hKs : va_K D z_cl [(cS, .object "NineBooks$Sheet")] s) (i : Int32) (hi4 : ¬ (4 : Int32) ≤ i) (hin4 : vp_in i 4) (hx : p.tables.exec = Jvm.exec) (hb : c.code = cX7_init) (hml : c.maxLocals = 2) (hg : ∀ w ∈ lw_g, w.before args s = true) (hown : s.vm.findClass RX7 = some m.cls) (hin : meth.name = "<init>") (hK0 : va_K D z_cl [] s) (hA : ∀ q : Nat, s.heap.size ≤ q → A q) (hAO : va_AO "NineBooks$Sheet" s) (hN : z_nN s) (hRf : 2 ≤ R.frames) (hRl : 32 ≤ R.locals) (hRc : cells + 2 ≤ R.cells) (hRs : slots + 51 ≤ R.slots) (hl : lv_has ls 2 [(1, .int i), (0, .ref h0)]) (hS : va_S A s.heap H locs) (hP : va_P D z_cl ((h0, .inr (6, [f0, f1, f2, f3, .ref sa, f5, f6, f7, f8, f9, f10])) :: (sa, .inl (cS, 4, .inr (.inr (.inr (.inr af))))) :: ws) H) (hD : va_D A ((h0, .inr (6, [f0, f1, f2, f3, .ref sa, f5, f6, f7, f8, f9, f10])) :: (sa, .inl (cS, 4, .inr (.inr (.inr (.inr af))))) :: ws)) (kk : ∀ (q104_0 q7_108_1 : Nat) (c7_108_1 : ClassId) (H : Heap) (locs : List Loc) (ls : Array Slot), va_P D z_cl ((((h0, .inr (6, [f0, f1, f2, f3, .ref sa, f5, f6, f7, f8, f9, f10])) :: (sa, .inl (cS, 4, .inr (.inr (.inr (.inr (va_up af (Int32.toNatClampNeg i) (some q104_0))))))) :: ws) ++ [(q7_108_1, .inl (c7_108_1, (48, .inl (fun _ => 0))))]) ++ [(q104_0, .inr (5, [.ref q7_108_1, .int 0, .int (-1)]))]) H → va_D A ((((h0, .inr (6, [f0, f1, f2, f3, .ref sa, f5, f6, f7, f8, f9, f10])) :: (sa, .inl (cS, 4, .inr (.inr (.inr (.inr (va_up af (Int32.toNatClampNeg i) (some q104_0))))))) :: ws) ++ [(q7_108_1, .inl (c7_108_1, (48, .inl (fun _ => 0))))]) ++ [(q104_0, .inr (5, [.ref q7_108_1, .int 0, .int (-1)]))]) → va_S A s.heap H locs → va_K D z_cl [(c7_108_1, .int)] s → lv_has ls 2 [(1, .int (i + 1)), (0, .ref h0)] → W p l e R s m args below meth c H locs (cells + 2) (slots + 51) Q (F0 m 90 ls [])) : W p l e R s m args below meth c H locs cells slots Q (F0 m 90 ls []) := by
  have hK := hKs
  refine lv_iload_n hx hb dX7_init_90 rfl (lv_at hl 0 rfl) ?_
  refine lv_aload_n hx hb dX7_init_91 rfl (lv_at hl 1 rfl) ?_
  refine va_get (ci := 6) (C := RX7) (T := TX7) (N := 11) hx hb hg z_inX7 hown hK hP 0 rfl rfl 4 (by decide) (hg _ (z_g 172 (by decide +kernel) rfl)) (fun _ h9 => h9) (v := .ref sa) rfl dX7_init_92 ?_
  refine va_alen hx hb hK hP 1 0 rfl rfl (v := 4) rfl dX7_init_95 ?_
  refine lv_icmp_ge hx hb (tgt := 118) dX7_init_96 (by decide) (fun q => absurd q hi4) (fun _ => ?_)
  refine lv_aload_n hx hb dX7_init_99 rfl (lv_at hl 1 rfl) ?_
  refine va_get (ci := 6) (C := RX7) (T := TX7) (N := 11) hx hb hg z_inX7 hown hK hP 0 rfl rfl 4 (by decide) (hg _ (z_g 172 (by decide +kernel) rfl)) (fun _ h9 => h9) (v := .ref sa) rfl dX7_init_100 ?_
  refine lv_iload_n hx hb dX7_init_103 rfl (lv_at hl 0 rfl) ?_
  refine va_new (ci := 5) (fs := [.null, .int 0, .int 0]) (C := RX6) (T := TX6) (N := 3) hx hb hg z_inX6 tyX6 tyX6_ok hown (hg _ (z_g 151 (by decide +kernel) rfl)) (hg _ (z_g 153 (by decide +kernel) rfl)) (hg _ (z_g 50 (by decide +kernel) rfl)) hK hP hD hS hA rfl (fun j hj => by rcases (show j = 0 ∨ j = 1 ∨ j = 2 by omega) with rfl | rfl | rfl <;> rfl) (by omega) (by omega) dX7_init_104 (fun q104_0 H hP hD hS => ?_)
  have hP := va_P.swap (a := []) hP
  have hD := va_D.swap (a := []) hD
  have hP : va_P D z_cl ((q104_0, .inr (5, [.null, .int 0, .int 0])) :: (h0, .inr (6, [f0, f1, f2, f3, .ref sa, f5, f6, f7, f8, f9, f10])) :: (sa, .inl (cS, 4, .inr (.inr (.inr (.inr af))))) :: ws) H := hP
  have hD : va_D A ((q104_0, .inr (5, [.null, .int 0, .int 0])) :: (h0, .inr (6, [f0, f1, f2, f3, .ref sa, f5, f6, f7, f8, f9, f10])) :: (sa, .inl (cS, 4, .inr (.inr (.inr (.inr af))))) :: ws) := hD
  refine lv_dup hx hb dX7_init_107 rfl ?_
  have hSo := hS
  have hP : va_P D z_cl ((q104_0, .inr (5, [.null, .int 0, .int 0])) :: ((h0, .inr (6, [f0, f1, f2, f3, .ref sa, f5, f6, f7, f8, f9, f10])) :: (sa, .inl (cS, 4, .inr (.inr (.inr (.inr af))))) :: ws)) H := hP
  have hD : va_D A ((q104_0, .inr (5, [.null, .int 0, .int 0])) :: ((h0, .inr (6, [f0, f1, f2, f3, .ref sa, f5, f6, f7, f8, f9, f10])) :: (sa, .inl (cS, 4, .inr (.inr (.inr (.inr af))))) :: ws)) := hD
  have hDo := hD
  refine va_callv (va_runIN (As := []) (rest := [.ref q104_0, .int i, .ref sa]) ⟨hx, hb, hml, hown, hg⟩ (in_X6_init l D q104_0  ((h0, .inr (6, [f0, f1, f2, f3, .ref sa, f5, f6, f7, f8, f9, f10])) :: (sa, .inl (cS, 4, .inr (.inr (.inr (.inr af))))) :: ws) H.size) (⟨va_cnB (host := "NineBooks") 0 hg (z_gi (z_g 156 (by decide +kernel) rfl)) rfl rfl rfl (hN _ (z_gn 154 (by decide +kernel) rfl)) (hg _ (z_g 50 (by decide +kernel) rfl)) (by decide +kernel) ⟨(by omega), (by omega)⟩, rfl, hg _ (z_g 155 (by decide +kernel) rfl)⟩) ⟨fun a U g mk q => by obtain ⟨r0, r1, rP, rK, rD⟩ := q; exact ⟨r0, r1, rP, va_K.moved (u := U) (U := U.calling g mk a) (Vm.Alike.refl U.vm) rK, rD⟩, fun U hU hW => ⟨rfl, by rw [hU], by rw [hU]; exact hP, va_K.moved hW.alike hK0, hD.weaken (fun _ _ _ _ => trivial)⟩⟩ rfl rfl hl.1 rfl (lv_room (Nat.le_of_ble_eq_true rfl)) dX7_init_108 ⟨(by omega), (by omega)⟩) hS (fun x _ h => z_Asub hD hS hA x h) (fun x h => z_Asub hD hS hA x h) (fun u t H locs ht hvm _ hB hz1 hk1 hS => ?_)
  obtain ⟨q7_108_1, c7_108_1, hP, hK1, hD⟩ := hB
  rw [ht] at hP
  have hK := hK.app (va_K.moved hvm.symm hK1)
  have hD := hD.weaken (fun _ _ _ h => z_Asub hDo hSo hA _ h)
  have hP : va_P D z_cl (((q104_0, .inr (5, [.ref q7_108_1, .int 0, .int (-1)])) :: (h0, .inr (6, [f0, f1, f2, f3, .ref sa, f5, f6, f7, f8, f9, f10])) :: (sa, .inl (cS, 4, .inr (.inr (.inr (.inr af))))) :: ws) ++ [(q7_108_1, .inl (c7_108_1, (48, .inl (fun _ => 0))))]) H := hP
  have hD : va_D A (((q104_0, .inr (5, [.ref q7_108_1, .int 0, .int (-1)])) :: (h0, .inr (6, [f0, f1, f2, f3, .ref sa, f5, f6, f7, f8, f9, f10])) :: (sa, .inl (cS, 4, .inr (.inr (.inr (.inr af))))) :: ws) ++ [(q7_108_1, .inl (c7_108_1, (48, .inl (fun _ => 0))))]) := hD
  refine va_astq hx hb hK hP hD hS 2 0 0 5 rfl rfl rfl rfl (i := i) hin4 dX7_init_111 (fun H locs hP hD hS => ?_)
  have hP : va_P D z_cl (((q104_0, .inr (5, [.ref q7_108_1, .int 0, .int (-1)])) :: (h0, .inr (6, [f0, f1, f2, f3, .ref sa, f5, f6, f7, f8, f9, f10])) :: (sa, .inl (cS, 4, .inr (.inr (.inr (.inr (va_up af (Int32.toNatClampNeg i) (some q104_0))))))) :: ws) ++ [(q7_108_1, .inl (c7_108_1, (48, .inl (fun _ => 0))))]) H := hP
  have hD : va_D A (((q104_0, .inr (5, [.ref q7_108_1, .int 0, .int (-1)])) :: (h0, .inr (6, [f0, f1, f2, f3, .ref sa, f5, f6, f7, f8, f9, f10])) :: (sa, .inl (cS, 4, .inr (.inr (.inr (.inr (va_up af (Int32.toNatClampNeg i) (some q104_0))))))) :: ws) ++ [(q7_108_1, .inl (c7_108_1, (48, .inl (fun _ => 0))))]) := hD
  refine lv_iinc hx hb (lv' := [(1, .int (i + 1)), (0, .ref h0)]) (v := (i + 1)) dX7_init_112 hl (k := 0) rfl zi_add (by decide) rfl (fun ls hl => ?_)
  refine lv_goto hx hb (tgt := 90) dX7_init_115 (by decide) ?_
  have hP := va_P.swap (a := []) (b := [(q104_0, .inr (5, [.ref q7_108_1, .int 0, .int (-1)]))]) (c := (((h0, .inr (6, [f0, f1, f2, f3, .ref sa, f5, f6, f7, f8, f9, f10])) :: (sa, .inl (cS, 4, .inr (.inr (.inr (.inr (va_up af (Int32.toNatClampNeg i) (some q104_0))))))) :: ws) ++ [(q7_108_1, .inl (c7_108_1, (48, .inl (fun _ => 0))))])) hP
  have hD := va_D.swap (a := []) (b := [(q104_0, .inr (5, [.ref q7_108_1, .int 0, .int (-1)]))]) (c := (((h0, .inr (6, [f0, f1, f2, f3, .ref sa, f5, f6, f7, f8, f9, f10])) :: (sa, .inl (cS, 4, .inr (.inr (.inr (.inr (va_up af (Int32.toNatClampNeg i) (some q104_0))))))) :: ws) ++ [(q7_108_1, .inl (c7_108_1, (48, .inl (fun _ => 0))))])) hD
  have hP : va_P D z_cl ((((h0, .inr (6, [f0, f1, f2, f3, .ref sa, f5, f6, f7, f8, f9, f10])) :: (sa, .inl (cS, 4, .inr (.inr (.inr (.inr (va_up af (Int32.toNatClampNeg i) (some q104_0))))))) :: ws) ++ [(q7_108_1, .inl (c7_108_1, (48, .inl (fun _ => 0))))]) ++ [(q104_0, .inr (5, [.ref q7_108_1, .int 0, .int (-1)]))]) H := hP
  have hD : va_D A ((((h0, .inr (6, [f0, f1, f2, f3, .ref sa, f5, f6, f7, f8, f9, f10])) :: (sa, .inl (cS, 4, .inr (.inr (.inr (.inr (va_up af (Int32.toNatClampNeg i) (some q104_0))))))) :: ws) ++ [(q7_108_1, .inl (c7_108_1, (48, .inl (fun _ => 0))))]) ++ [(q104_0, .inr (5, [.ref q7_108_1, .int 0, .int (-1)]))]) := hD
  refine W.widen (k := cells + 2) (n := slots + 51) (by omega) (by omega) ?_
  exact kk q104_0 q7_108_1 c7_108_1 H locs ls hP hD hS (hK.sub [1] rfl) hl
