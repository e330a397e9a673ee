/-! constructors -/
theorem z_Asub {A : Nat → Prop} {ws : va_W} {H0 H : Heap} {locs : List Loc} (hD : va_D A ws) (hS : va_S A H0 H locs) (hA : ∀ x, H0.size ≤ x → A x) : ∀ x, va_A ws H.size x → A x := by
  intro x hx
  rcases hx with ⟨k, e1, hk⟩ | hx
  · exact hD.2 k _ hk
  · exact hA x (Nat.le_trans hS.1 hx)
set_option maxHeartbeats 4000000 in
set_option maxRecDepth 100000 in
theorem in_X4_init (l : Launch) (D : va_G) (h0 : Nat) (v : Int32) (ex : va_W) (sz : Nat) : Met l yX4_init (Cond.code yX4_init cX4_init 2 none :: lw_g) ({ frames := 1, cells := 0, slots := 0, locals := 12 } : Room) (va_Pc [.ref h0, .int v] (fun U => U.heap.size = sz ∧ va_P D z_cl ((h0, .inr (3, [.int 0])) :: ex) U.heap ∧ va_K D z_cl [] U ∧ va_D (fun _ => True) ((h0, .inr (3, [.int 0])) :: ex))) (va_Qv (fun _ : Unit => True) (fun _ t => va_P D z_cl ((h0, .inr (3, [.int v])) :: ex) t.heap ∧ va_K D z_cl [] t ∧ va_D (va_A ((h0, .inr (3, [.int 0])) :: ex) sz) ((h0, .inr (3, [.int v])) :: ex)) (va_A ((h0, .inr (3, [.int 0])) :: ex) sz)) 0 0 (va_A ((h0, .inr (3, [.int 0])) :: ex) sz) := by
  refine Met.ofW (cc := cX4_init) (maxL := 2) (ret := none) (by decide +kernel) rfl ?_
  intro p e s m args below meth c s₁ B hml hv
  obtain ⟨rfl, hsz, hP, hK, hD0⟩ := hv
  have hx := B.exec
  have hb := B.bytes
  have hr := B.returns
  have hlocks := B.notSynchronized
  have hg : ∀ w ∈ lw_g, w.before _ s = true := fun w hw => atoms_spec (ws := Cond.code yX4_init cX4_init 2 none :: lw_g) B.pre w (List.mem_cons_of_mem _ hw)
  have hown : s.vm.findClass RX4 = some m.cls := findClass_of_methodNamed B.named
  have hin : meth.name = "<init>" := (name_of_methodNamed B.named B.method).1
  subst hsz
  have hK0 := hK
  have hD := hD0.self (sz := s.heap.size)
  generalize hAe : va_A ((h0, .inr (3, [.int 0])) :: ex) s.heap.size = A at hD ⊢
  have hA : ∀ q : Nat, s.heap.size ≤ q → A q := fun q h => by rw [← hAe]; exact Or.inr h
  have hS : va_S A s.heap s.heap [] := va_S.rf
  have hP : va_P D z_cl ((h0, .inr (3, [.int 0])) :: ex) s.heap := hP
  have hl := lv_entry ([.ref h0, .int v]) (n := 2) (Nat.le_of_ble_eq_true rfl)
  rw [lg_entry_eq]
  generalize (lg_sl ([.ref h0, .int v]) ++ List.replicate (2 - (lg_sl ([.ref h0, .int v])).length) Slot.unset).toArray = ls at hl ⊢
  have hl : lv_has ls 2 [(0, .ref h0), (1, .int v)] := hl
  refine lv_aload_n hx hb dX4_init_0 rfl (lv_at hl 0 rfl) ?_
  refine W.objInit hx hb hown (hg _ (z_g 545 (by decide +kernel) rfl)) (hg _ (z_g 62 (by decide +kernel) rfl)) (hg _ (z_g 63 (by decide +kernel) rfl)) rfl (by rw [hml]; exact hl.1) rfl dX4_init_1 (Nat.le_of_ble_eq_true rfl) (Nat.le_of_ble_eq_true rfl) ?_
  refine W.eq (g2 := F0 m 4 ls []) rfl ?_
  refine lv_aload_n hx hb dX4_init_4 rfl (lv_at hl 0 rfl) ?_
  refine lv_iload_n hx hb dX4_init_5 rfl (lv_at hl 1 rfl) ?_
  refine va_put (ci := 3) (v := .int v) (ty := .int) (C := RX4) (T := TX4) (N := 1) hx hb hg z_inX4 tyX4 tyX4_ok nmX4 hown hK hP hD hS 0 rfl rfl 0 (by decide) (hg _ (z_g 546 (by decide +kernel) rfl)) (fun _ h9 => h9) rfl (by decide +kernel) rfl rfl (Nat.le_of_ble_eq_true rfl) dX4_init_6 (fun H locs hP hD hS => ?_)
  have hP : va_P D z_cl ((h0, .inr (3, [.int v])) :: ex) H := hP
  have hD : va_D A ((h0, .inr (3, [.int v])) :: ex) := hD
  exact W.vret hx hb hr (fun t ht hW => ⟨⟨(), rfl, trivial, by rw [ht]; exact hP, va_K.moved hW.alike (hK.sub [] rfl), hD⟩, hS.F ht⟩) hS.2.2 dX4_init_9
set_option maxHeartbeats 4000000 in
set_option maxRecDepth 100000 in
theorem in_X6_init (l : Launch) (D : va_G) (h0 : Nat)  (ex : va_W) (sz : Nat) : Met l yX6_init (Cond.code yX6_init cX6_init 1 none :: lw_g) ({ frames := 1, cells := 1, slots := 48, locals := 12 } : Room) (va_Pc [.ref h0] (fun U => U.heap.size = sz ∧ va_P D z_cl ((h0, .inr (5, [.null, .int 0, .int 0])) :: ex) U.heap ∧ va_K D z_cl [] U ∧ va_D (fun _ => True) ((h0, .inr (5, [.null, .int 0, .int 0])) :: ex))) (va_Qv (fun _ : Unit => True) (fun _ t => ∃ (q7 : Nat) (c7 : ClassId), va_P D z_cl (((h0, .inr (5, [.ref q7, .int 0, .int (-1)])) :: ex) ++ [(q7, .inl (c7, (48, .inl (fun _ => 0))))]) t.heap ∧ va_K D z_cl [(c7, .int)] t ∧ va_D (va_A ((h0, .inr (5, [.null, .int 0, .int 0])) :: ex) sz) (((h0, .inr (5, [.ref q7, .int 0, .int (-1)])) :: ex) ++ [(q7, .inl (c7, (48, .inl (fun _ => 0))))])) (va_A ((h0, .inr (5, [.null, .int 0, .int 0])) :: ex) sz)) 1 48 (va_A ((h0, .inr (5, [.null, .int 0, .int 0])) :: ex) sz) := by
  refine Met.ofW (cc := cX6_init) (maxL := 1) (ret := none) (by decide +kernel) rfl ?_
  intro p e s m args below meth c s₁ B hml hv
  obtain ⟨rfl, hsz, hP, hK, hD0⟩ := hv
  have hx := B.exec
  have hb := B.bytes
  have hr := B.returns
  have hlocks := B.notSynchronized
  have hg : ∀ w ∈ lw_g, w.before _ s = true := fun w hw => atoms_spec (ws := Cond.code yX6_init cX6_init 1 none :: lw_g) B.pre w (List.mem_cons_of_mem _ hw)
  have hown : s.vm.findClass RX6 = some m.cls := findClass_of_methodNamed B.named
  have hin : meth.name = "<init>" := (name_of_methodNamed B.named B.method).1
  subst hsz
  have hK0 := hK
  have hD := hD0.self (sz := s.heap.size)
  generalize hAe : va_A ((h0, .inr (5, [.null, .int 0, .int 0])) :: ex) s.heap.size = A at hD ⊢
  have hA : ∀ q : Nat, s.heap.size ≤ q → A q := fun q h => by rw [← hAe]; exact Or.inr h
  have hS : va_S A s.heap s.heap [] := va_S.rf
  have hP : va_P D z_cl ((h0, .inr (5, [.null, .int 0, .int 0])) :: ex) s.heap := hP
  have hl := lv_entry ([.ref h0]) (n := 1) (Nat.le_of_ble_eq_true rfl)
  rw [lg_entry_eq]
  generalize (lg_sl ([.ref h0]) ++ List.replicate (1 - (lg_sl ([.ref h0])).length) Slot.unset).toArray = ls at hl ⊢
  have hl : lv_has ls 1 [(0, .ref h0)] := hl
  refine lv_aload_n hx hb dX6_init_0 rfl (lv_at hl 0 rfl) ?_
  refine W.objInit hx hb hown (hg _ (z_g 157 (by decide +kernel) rfl)) (hg _ (z_g 62 (by decide +kernel) rfl)) (hg _ (z_g 63 (by decide +kernel) rfl)) rfl (by rw [hml]; exact hl.1) rfl dX6_init_1 (Nat.le_of_ble_eq_true rfl) (Nat.le_of_ble_eq_true rfl) ?_
  refine W.eq (g2 := F0 m 4 ls []) rfl ?_
  refine lv_aload_n hx hb dX6_init_4 rfl (lv_at hl 0 rfl) ?_
  refine lv_bipush hx hb (v := 48) dX6_init_5 zb_48 ?_
  refine va_newa (atype := .int) hx hb (hg _ (z_g 98 (by decide +kernel) rfl)) rfl hK hP hD hS hA (n := 48) (N' := 48) (a0 := (48, .inl (fun _ => 0))) (fun cA => by first | rfl | exact vp_cell_i | exact vp_cell_l) (by decide) (by decide) (by decide) (Nat.le_of_ble_eq_true rfl) (Nat.le_of_ble_eq_true rfl) dX6_init_7 (fun q7 c7 H hK hP hD hS => ?_)
  have hP : va_P D z_cl (((h0, .inr (5, [.null, .int 0, .int 0])) :: ex) ++ [(q7, .inl (c7, (48, .inl (fun _ => 0))))]) H := hP
  have hD : va_D A (((h0, .inr (5, [.null, .int 0, .int 0])) :: ex) ++ [(q7, .inl (c7, (48, .inl (fun _ => 0))))]) := hD
  refine va_putF (ci := 5) (v := .ref q7) (ty := .array .int) (C := RX6) (T := TX6) (N := 3) hx hb hg z_inX6 tyX6 tyX6_ok nmX6 hown hK hP hD hS 0 rfl rfl 0 (by decide) (hg _ (z_g 158 (by decide +kernel) rfl)) (fun _ h9 => h9) rfl hin rfl (by decide +kernel) rfl rfl (Nat.le_of_ble_eq_true rfl) dX6_init_9 (fun H locs hP hD hS => ?_)
  have hP : va_P D z_cl (((h0, .inr (5, [.ref q7, .int 0, .int 0])) :: ex) ++ [(q7, .inl (c7, (48, .inl (fun _ => 0))))]) H := hP
  have hD : va_D A (((h0, .inr (5, [.ref q7, .int 0, .int 0])) :: ex) ++ [(q7, .inl (c7, (48, .inl (fun _ => 0))))]) := hD
  refine lv_aload_n hx hb dX6_init_12 rfl (lv_at hl 0 rfl) ?_
  refine lv_iconst hx hb (v := 0) dX6_init_13 zi_0 ?_
  refine va_put (ci := 5) (v := .int 0) (ty := .int) (C := RX6) (T := TX6) (N := 3) hx hb hg z_inX6 tyX6 tyX6_ok nmX6 hown hK hP hD hS 0 rfl rfl 1 (by decide) (hg _ (z_g 159 (by decide +kernel) rfl)) (fun _ h9 => h9) rfl (by decide +kernel) rfl rfl (Nat.le_of_ble_eq_true rfl) dX6_init_14 (fun H locs hP hD hS => ?_)
  have hP : va_P D z_cl (((h0, .inr (5, [.ref q7, .int 0, .int 0])) :: ex) ++ [(q7, .inl (c7, (48, .inl (fun _ => 0))))]) H := hP
  have hD : va_D A (((h0, .inr (5, [.ref q7, .int 0, .int 0])) :: ex) ++ [(q7, .inl (c7, (48, .inl (fun _ => 0))))]) := hD
  refine lv_aload_n hx hb dX6_init_17 rfl (lv_at hl 0 rfl) ?_
  refine lv_iconst hx hb (v := (-1)) dX6_init_18 zi_m1 ?_
  refine va_put (ci := 5) (v := .int (-1)) (ty := .int) (C := RX6) (T := TX6) (N := 3) hx hb hg z_inX6 tyX6 tyX6_ok nmX6 hown hK hP hD hS 0 rfl rfl 2 (by decide) (hg _ (z_g 160 (by decide +kernel) rfl)) (fun _ h9 => h9) rfl (by decide +kernel) rfl rfl (Nat.le_of_ble_eq_true rfl) dX6_init_19 (fun H locs hP hD hS => ?_)
  have hP : va_P D z_cl (((h0, .inr (5, [.ref q7, .int 0, .int (-1)])) :: ex) ++ [(q7, .inl (c7, (48, .inl (fun _ => 0))))]) H := hP
  have hD : va_D A (((h0, .inr (5, [.ref q7, .int 0, .int (-1)])) :: ex) ++ [(q7, .inl (c7, (48, .inl (fun _ => 0))))]) := hD
  exact W.vret hx hb hr (fun t ht hW => ⟨⟨(), rfl, trivial, q7, c7, by rw [ht]; exact hP, va_K.moved hW.alike (hK.sub [0] rfl), hD⟩, hS.F ht⟩) hS.2.2 dX6_init_22
set_option maxHeartbeats 4000000 in
set_option maxRecDepth 100000 in
theorem in_X1_init (l : Launch) (D : va_G) (h0 : Nat)  (ex : va_W) (sz : Nat) : Met l yX1_init (Cond.code yX1_init cX1_init 1 none :: lw_g) ({ frames := 1, cells := 1, slots := 9, locals := 12 } : Room) (va_Pc [.ref h0] (fun U => U.heap.size = sz ∧ va_P D z_cl ((h0, .inr (1, [.null, .int 0, .int 0])) :: ex) U.heap ∧ va_K D z_cl [] U ∧ va_D (fun _ => True) ((h0, .inr (1, [.null, .int 0, .int 0])) :: ex))) (va_Qv (fun _ : Unit => True) (fun _ t => ∃ (q7 : Nat) (c7 : ClassId), va_P D z_cl (((h0, .inr (1, [.ref q7, .int 0, .int 0])) :: ex) ++ [(q7, .inl (c7, (9, .inl (fun _ => 0))))]) t.heap ∧ va_K D z_cl [(c7, .int)] t ∧ va_D (va_A ((h0, .inr (1, [.null, .int 0, .int 0])) :: ex) sz) (((h0, .inr (1, [.ref q7, .int 0, .int 0])) :: ex) ++ [(q7, .inl (c7, (9, .inl (fun _ => 0))))])) (va_A ((h0, .inr (1, [.null, .int 0, .int 0])) :: ex) sz)) 1 9 (va_A ((h0, .inr (1, [.null, .int 0, .int 0])) :: ex) sz) := by
  refine Met.ofW (cc := cX1_init) (maxL := 1) (ret := none) (by decide +kernel) rfl ?_
  intro p e s m args below meth c s₁ B hml hv
  obtain ⟨rfl, hsz, hP, hK, hD0⟩ := hv
  have hx := B.exec
  have hb := B.bytes
  have hr := B.returns
  have hlocks := B.notSynchronized
  have hg : ∀ w ∈ lw_g, w.before _ s = true := fun w hw => atoms_spec (ws := Cond.code yX1_init cX1_init 1 none :: lw_g) B.pre w (List.mem_cons_of_mem _ hw)
  have hown : s.vm.findClass RX1 = some m.cls := findClass_of_methodNamed B.named
  have hin : meth.name = "<init>" := (name_of_methodNamed B.named B.method).1
  subst hsz
  have hK0 := hK
  have hD := hD0.self (sz := s.heap.size)
  generalize hAe : va_A ((h0, .inr (1, [.null, .int 0, .int 0])) :: ex) s.heap.size = A at hD ⊢
  have hA : ∀ q : Nat, s.heap.size ≤ q → A q := fun q h => by rw [← hAe]; exact Or.inr h
  have hS : va_S A s.heap s.heap [] := va_S.rf
  have hP : va_P D z_cl ((h0, .inr (1, [.null, .int 0, .int 0])) :: ex) s.heap := hP
  have hl := lv_entry ([.ref h0]) (n := 1) (Nat.le_of_ble_eq_true rfl)
  rw [lg_entry_eq]
  generalize (lg_sl ([.ref h0]) ++ List.replicate (1 - (lg_sl ([.ref h0])).length) Slot.unset).toArray = ls at hl ⊢
  have hl : lv_has ls 1 [(0, .ref h0)] := hl
  refine lv_aload_n hx hb dX1_init_0 rfl (lv_at hl 0 rfl) ?_
  refine W.objInit hx hb hown (hg _ (z_g 121 (by decide +kernel) rfl)) (hg _ (z_g 62 (by decide +kernel) rfl)) (hg _ (z_g 63 (by decide +kernel) rfl)) rfl (by rw [hml]; exact hl.1) rfl dX1_init_1 (Nat.le_of_ble_eq_true rfl) (Nat.le_of_ble_eq_true rfl) ?_
  refine W.eq (g2 := F0 m 4 ls []) rfl ?_
  refine lv_aload_n hx hb dX1_init_4 rfl (lv_at hl 0 rfl) ?_
  refine lv_bipush hx hb (v := 9) dX1_init_5 zb_9 ?_
  refine va_newa (atype := .int) hx hb (hg _ (z_g 98 (by decide +kernel) rfl)) rfl hK hP hD hS hA (n := 9) (N' := 9) (a0 := (9, .inl (fun _ => 0))) (fun cA => by first | rfl | exact vp_cell_i | exact vp_cell_l) (by decide) (by decide) (by decide) (Nat.le_of_ble_eq_true rfl) (Nat.le_of_ble_eq_true rfl) dX1_init_7 (fun q7 c7 H hK hP hD hS => ?_)
  have hP : va_P D z_cl (((h0, .inr (1, [.null, .int 0, .int 0])) :: ex) ++ [(q7, .inl (c7, (9, .inl (fun _ => 0))))]) H := hP
  have hD : va_D A (((h0, .inr (1, [.null, .int 0, .int 0])) :: ex) ++ [(q7, .inl (c7, (9, .inl (fun _ => 0))))]) := hD
  refine va_putF (ci := 1) (v := .ref q7) (ty := .array .int) (C := RX1) (T := TX1) (N := 3) hx hb hg z_inX1 tyX1 tyX1_ok nmX1 hown hK hP hD hS 0 rfl rfl 0 (by decide) (hg _ (z_g 122 (by decide +kernel) rfl)) (fun _ h9 => h9) rfl hin rfl (by decide +kernel) rfl rfl (Nat.le_of_ble_eq_true rfl) dX1_init_9 (fun H locs hP hD hS => ?_)
  have hP : va_P D z_cl (((h0, .inr (1, [.ref q7, .int 0, .int 0])) :: ex) ++ [(q7, .inl (c7, (9, .inl (fun _ => 0))))]) H := hP
  have hD : va_D A (((h0, .inr (1, [.ref q7, .int 0, .int 0])) :: ex) ++ [(q7, .inl (c7, (9, .inl (fun _ => 0))))]) := hD
  refine lv_aload_n hx hb dX1_init_12 rfl (lv_at hl 0 rfl) ?_
  refine lv_iconst hx hb (v := 0) dX1_init_13 zi_0 ?_
  refine va_put (ci := 1) (v := .int 0) (ty := .int) (C := RX1) (T := TX1) (N := 3) hx hb hg z_inX1 tyX1 tyX1_ok nmX1 hown hK hP hD hS 0 rfl rfl 1 (by decide) (hg _ (z_g 123 (by decide +kernel) rfl)) (fun _ h9 => h9) rfl (by decide +kernel) rfl rfl (Nat.le_of_ble_eq_true rfl) dX1_init_14 (fun H locs hP hD hS => ?_)
  have hP : va_P D z_cl (((h0, .inr (1, [.ref q7, .int 0, .int 0])) :: ex) ++ [(q7, .inl (c7, (9, .inl (fun _ => 0))))]) H := hP
  have hD : va_D A (((h0, .inr (1, [.ref q7, .int 0, .int 0])) :: ex) ++ [(q7, .inl (c7, (9, .inl (fun _ => 0))))]) := hD
  refine lv_aload_n hx hb dX1_init_17 rfl (lv_at hl 0 rfl) ?_
  refine lv_iconst hx hb (v := 0) dX1_init_18 zi_0 ?_
  refine va_put (ci := 1) (v := .int 0) (ty := .int) (C := RX1) (T := TX1) (N := 3) hx hb hg z_inX1 tyX1 tyX1_ok nmX1 hown hK hP hD hS 0 rfl rfl 2 (by decide) (hg _ (z_g 124 (by decide +kernel) rfl)) (fun _ h9 => h9) rfl (by decide +kernel) rfl rfl (Nat.le_of_ble_eq_true rfl) dX1_init_19 (fun H locs hP hD hS => ?_)
  have hP : va_P D z_cl (((h0, .inr (1, [.ref q7, .int 0, .int 0])) :: ex) ++ [(q7, .inl (c7, (9, .inl (fun _ => 0))))]) H := hP
  have hD : va_D A (((h0, .inr (1, [.ref q7, .int 0, .int 0])) :: ex) ++ [(q7, .inl (c7, (9, .inl (fun _ => 0))))]) := hD
  exact W.vret hx hb hr (fun t ht hW => ⟨⟨(), rfl, trivial, q7, c7, by rw [ht]; exact hP, va_K.moved hW.alike (hK.sub [0] rfl), hD⟩, hS.F ht⟩) hS.2.2 dX1_init_22
set_option maxHeartbeats 4000000 in
set_option maxRecDepth 100000 in
theorem in_X5_init (l : Launch) (D : va_G) (h0 : Nat)  (ex : va_W) (sz : Nat) : Met l yX5_init (Cond.code yX5_init cX5_init 1 none :: lw_g) ({ frames := 1, cells := 3, slots := 24, locals := 12 } : Room) (va_Pc [.ref h0] (fun U => U.heap.size = sz ∧ va_P D z_cl ((h0, .inr (4, [.null, .null, .null, .int 0])) :: ex) U.heap ∧ va_K D z_cl [] U ∧ va_D (fun _ => True) ((h0, .inr (4, [.null, .null, .null, .int 0])) :: ex))) (va_Qv (fun _ : Unit => True) (fun _ t => ∃ (q7 q15 q23 : Nat) (c7 c15 c23 : ClassId), va_P D z_cl (((((h0, .inr (4, [.ref q7, .ref q15, .ref q23, .int 0])) :: ex) ++ [(q7, .inl (c7, (8, .inl (fun _ => 0))))]) ++ [(q15, .inl (c15, (8, .inl (fun _ => 0))))]) ++ [(q23, .inl (c23, (8, .inl (fun _ => 0))))]) t.heap ∧ va_K D z_cl [(c7, .int), (c15, .int), (c23, .int)] t ∧ va_D (va_A ((h0, .inr (4, [.null, .null, .null, .int 0])) :: ex) sz) (((((h0, .inr (4, [.ref q7, .ref q15, .ref q23, .int 0])) :: ex) ++ [(q7, .inl (c7, (8, .inl (fun _ => 0))))]) ++ [(q15, .inl (c15, (8, .inl (fun _ => 0))))]) ++ [(q23, .inl (c23, (8, .inl (fun _ => 0))))])) (va_A ((h0, .inr (4, [.null, .null, .null, .int 0])) :: ex) sz)) 3 24 (va_A ((h0, .inr (4, [.null, .null, .null, .int 0])) :: ex) sz) := by
  refine Met.ofW (cc := cX5_init) (maxL := 1) (ret := none) (by decide +kernel) rfl ?_
  intro p e s m args below meth c s₁ B hml hv
  obtain ⟨rfl, hsz, hP, hK, hD0⟩ := hv
  have hx := B.exec
  have hb := B.bytes
  have hr := B.returns
  have hlocks := B.notSynchronized
  have hg : ∀ w ∈ lw_g, w.before _ s = true := fun w hw => atoms_spec (ws := Cond.code yX5_init cX5_init 1 none :: lw_g) B.pre w (List.mem_cons_of_mem _ hw)
  have hown : s.vm.findClass RX5 = some m.cls := findClass_of_methodNamed B.named
  have hin : meth.name = "<init>" := (name_of_methodNamed B.named B.method).1
  subst hsz
  have hK0 := hK
  have hD := hD0.self (sz := s.heap.size)
  generalize hAe : va_A ((h0, .inr (4, [.null, .null, .null, .int 0])) :: ex) s.heap.size = A at hD ⊢
  have hA : ∀ q : Nat, s.heap.size ≤ q → A q := fun q h => by rw [← hAe]; exact Or.inr h
  have hS : va_S A s.heap s.heap [] := va_S.rf
  have hP : va_P D z_cl ((h0, .inr (4, [.null, .null, .null, .int 0])) :: ex) s.heap := hP
  have hl := lv_entry ([.ref h0]) (n := 1) (Nat.le_of_ble_eq_true rfl)
  rw [lg_entry_eq]
  generalize (lg_sl ([.ref h0]) ++ List.replicate (1 - (lg_sl ([.ref h0])).length) Slot.unset).toArray = ls at hl ⊢
  have hl : lv_has ls 1 [(0, .ref h0)] := hl
  refine lv_aload_n hx hb dX5_init_0 rfl (lv_at hl 0 rfl) ?_
  refine W.objInit hx hb hown (hg _ (z_g 137 (by decide +kernel) rfl)) (hg _ (z_g 62 (by decide +kernel) rfl)) (hg _ (z_g 63 (by decide +kernel) rfl)) rfl (by rw [hml]; exact hl.1) rfl dX5_init_1 (Nat.le_of_ble_eq_true rfl) (Nat.le_of_ble_eq_true rfl) ?_
  refine W.eq (g2 := F0 m 4 ls []) rfl ?_
  refine lv_aload_n hx hb dX5_init_4 rfl (lv_at hl 0 rfl) ?_
  refine lv_bipush hx hb (v := 8) dX5_init_5 zb_8 ?_
  refine va_newa (atype := .int) hx hb (hg _ (z_g 98 (by decide +kernel) rfl)) rfl hK hP hD hS hA (n := 8) (N' := 8) (a0 := (8, .inl (fun _ => 0))) (fun cA => by first | rfl | exact vp_cell_i | exact vp_cell_l) (by decide) (by decide) (by decide) (Nat.le_of_ble_eq_true rfl) (Nat.le_of_ble_eq_true rfl) dX5_init_7 (fun q7 c7 H hK hP hD hS => ?_)
  have hP : va_P D z_cl (((h0, .inr (4, [.null, .null, .null, .int 0])) :: ex) ++ [(q7, .inl (c7, (8, .inl (fun _ => 0))))]) H := hP
  have hD : va_D A (((h0, .inr (4, [.null, .null, .null, .int 0])) :: ex) ++ [(q7, .inl (c7, (8, .inl (fun _ => 0))))]) := hD
  refine va_putF (ci := 4) (v := .ref q7) (ty := .array .int) (C := RX5) (T := TX5) (N := 4) hx hb hg z_inX5 tyX5 tyX5_ok nmX5 hown hK hP hD hS 0 rfl rfl 0 (by decide) (hg _ (z_g 138 (by decide +kernel) rfl)) (fun _ h9 => h9) rfl hin rfl (by decide +kernel) rfl rfl (Nat.le_of_ble_eq_true rfl) dX5_init_9 (fun H locs hP hD hS => ?_)
  have hP : va_P D z_cl (((h0, .inr (4, [.ref q7, .null, .null, .int 0])) :: ex) ++ [(q7, .inl (c7, (8, .inl (fun _ => 0))))]) H := hP
  have hD : va_D A (((h0, .inr (4, [.ref q7, .null, .null, .int 0])) :: ex) ++ [(q7, .inl (c7, (8, .inl (fun _ => 0))))]) := hD
  refine lv_aload_n hx hb dX5_init_12 rfl (lv_at hl 0 rfl) ?_
  refine lv_bipush hx hb (v := 8) dX5_init_13 zb_8 ?_
  refine va_newa (atype := .int) hx hb (hg _ (z_g 98 (by decide +kernel) rfl)) rfl hK hP hD hS hA (n := 8) (N' := 8) (a0 := (8, .inl (fun _ => 0))) (fun cA => by first | rfl | exact vp_cell_i | exact vp_cell_l) (by decide) (by decide) (by decide) (Nat.le_of_ble_eq_true rfl) (Nat.le_of_ble_eq_true rfl) dX5_init_15 (fun q15 c15 H hK hP hD hS => ?_)
  have hP : va_P D z_cl ((((h0, .inr (4, [.ref q7, .null, .null, .int 0])) :: ex) ++ [(q7, .inl (c7, (8, .inl (fun _ => 0))))]) ++ [(q15, .inl (c15, (8, .inl (fun _ => 0))))]) H := hP
  have hD : va_D A ((((h0, .inr (4, [.ref q7, .null, .null, .int 0])) :: ex) ++ [(q7, .inl (c7, (8, .inl (fun _ => 0))))]) ++ [(q15, .inl (c15, (8, .inl (fun _ => 0))))]) := hD
  refine va_putF (ci := 4) (v := .ref q15) (ty := .array .int) (C := RX5) (T := TX5) (N := 4) hx hb hg z_inX5 tyX5 tyX5_ok nmX5 hown hK hP hD hS 0 rfl rfl 1 (by decide) (hg _ (z_g 139 (by decide +kernel) rfl)) (fun _ h9 => h9) rfl hin rfl (by decide +kernel) rfl rfl (Nat.le_of_ble_eq_true rfl) dX5_init_17 (fun H locs hP hD hS => ?_)
  have hP : va_P D z_cl ((((h0, .inr (4, [.ref q7, .ref q15, .null, .int 0])) :: ex) ++ [(q7, .inl (c7, (8, .inl (fun _ => 0))))]) ++ [(q15, .inl (c15, (8, .inl (fun _ => 0))))]) H := hP
  have hD : va_D A ((((h0, .inr (4, [.ref q7, .ref q15, .null, .int 0])) :: ex) ++ [(q7, .inl (c7, (8, .inl (fun _ => 0))))]) ++ [(q15, .inl (c15, (8, .inl (fun _ => 0))))]) := hD
  refine lv_aload_n hx hb dX5_init_20 rfl (lv_at hl 0 rfl) ?_
  refine lv_bipush hx hb (v := 8) dX5_init_21 zb_8 ?_
  refine va_newa (atype := .int) hx hb (hg _ (z_g 98 (by decide +kernel) rfl)) rfl hK hP hD hS hA (n := 8) (N' := 8) (a0 := (8, .inl (fun _ => 0))) (fun cA => by first | rfl | exact vp_cell_i | exact vp_cell_l) (by decide) (by decide) (by decide) (Nat.le_of_ble_eq_true rfl) (Nat.le_of_ble_eq_true rfl) dX5_init_23 (fun q23 c23 H hK hP hD hS => ?_)
  have hP : va_P D z_cl (((((h0, .inr (4, [.ref q7, .ref q15, .null, .int 0])) :: ex) ++ [(q7, .inl (c7, (8, .inl (fun _ => 0))))]) ++ [(q15, .inl (c15, (8, .inl (fun _ => 0))))]) ++ [(q23, .inl (c23, (8, .inl (fun _ => 0))))]) H := hP
  have hD : va_D A (((((h0, .inr (4, [.ref q7, .ref q15, .null, .int 0])) :: ex) ++ [(q7, .inl (c7, (8, .inl (fun _ => 0))))]) ++ [(q15, .inl (c15, (8, .inl (fun _ => 0))))]) ++ [(q23, .inl (c23, (8, .inl (fun _ => 0))))]) := hD
  refine va_putF (ci := 4) (v := .ref q23) (ty := .array .int) (C := RX5) (T := TX5) (N := 4) hx hb hg z_inX5 tyX5 tyX5_ok nmX5 hown hK hP hD hS 0 rfl rfl 2 (by decide) (hg _ (z_g 140 (by decide +kernel) rfl)) (fun _ h9 => h9) rfl hin rfl (by decide +kernel) rfl rfl (Nat.le_of_ble_eq_true rfl) dX5_init_25 (fun H locs hP hD hS => ?_)
  have hP : va_P D z_cl (((((h0, .inr (4, [.ref q7, .ref q15, .ref q23, .int 0])) :: ex) ++ [(q7, .inl (c7, (8, .inl (fun _ => 0))))]) ++ [(q15, .inl (c15, (8, .inl (fun _ => 0))))]) ++ [(q23, .inl (c23, (8, .inl (fun _ => 0))))]) H := hP
  have hD : va_D A (((((h0, .inr (4, [.ref q7, .ref q15, .ref q23, .int 0])) :: ex) ++ [(q7, .inl (c7, (8, .inl (fun _ => 0))))]) ++ [(q15, .inl (c15, (8, .inl (fun _ => 0))))]) ++ [(q23, .inl (c23, (8, .inl (fun _ => 0))))]) := hD
  refine lv_aload_n hx hb dX5_init_28 rfl (lv_at hl 0 rfl) ?_
  refine lv_iconst hx hb (v := 0) dX5_init_29 zi_0 ?_
  refine va_put (ci := 4) (v := .int 0) (ty := .int) (C := RX5) (T := TX5) (N := 4) hx hb hg z_inX5 tyX5 tyX5_ok nmX5 hown hK hP hD hS 0 rfl rfl 3 (by decide) (hg _ (z_g 141 (by decide +kernel) rfl)) (fun _ h9 => h9) rfl (by decide +kernel) rfl rfl (Nat.le_of_ble_eq_true rfl) dX5_init_30 (fun H locs hP hD hS => ?_)
  have hP : va_P D z_cl (((((h0, .inr (4, [.ref q7, .ref q15, .ref q23, .int 0])) :: ex) ++ [(q7, .inl (c7, (8, .inl (fun _ => 0))))]) ++ [(q15, .inl (c15, (8, .inl (fun _ => 0))))]) ++ [(q23, .inl (c23, (8, .inl (fun _ => 0))))]) H := hP
  have hD : va_D A (((((h0, .inr (4, [.ref q7, .ref q15, .ref q23, .int 0])) :: ex) ++ [(q7, .inl (c7, (8, .inl (fun _ => 0))))]) ++ [(q15, .inl (c15, (8, .inl (fun _ => 0))))]) ++ [(q23, .inl (c23, (8, .inl (fun _ => 0))))]) := hD
  exact W.vret hx hb hr (fun t ht hW => ⟨⟨(), rfl, trivial, q7, q15, q23, c7, c15, c23, by rw [ht]; exact hP, va_K.moved hW.alike (hK.sub [0, 1, 2] rfl), hD⟩, hS.F ht⟩) hS.2.2 dX5_init_33
set_option maxHeartbeats 4000000 in
set_option maxRecDepth 100000 in
theorem in_X2_init_X0 (l : Launch) (D : va_G) (h0 : Nat) (b0 : Nat) (ex : va_W) (sz : Nat) : Met l yX2_init (Cond.code yX2_init cX2_init 2 none :: lw_g) ({ frames := 1, cells := 0, slots := 0, locals := 12 } : Room) (va_Pc [.ref h0, .ref b0] (fun U => U.heap.size = sz ∧ va_P D z_cl ((h0, .inr (0, [.null, .int 0, .int 0, .int 0, .null, .null, .null, .null])) :: ex) U.heap ∧ va_K D z_cl [] U ∧ va_D (fun _ => True) ((h0, .inr (0, [.null, .int 0, .int 0, .int 0, .null, .null, .null, .null])) :: ex))) (va_Qv (fun _ : Unit => True) (fun _ t => va_P D z_cl ((h0, .inr (0, [.ref b0, .int 0, .int (-1), .int 0, .null, .null, .null, .null])) :: ex) t.heap ∧ va_K D z_cl [] t ∧ va_D (va_A ((h0, .inr (0, [.null, .int 0, .int 0, .int 0, .null, .null, .null, .null])) :: ex) sz) ((h0, .inr (0, [.ref b0, .int 0, .int (-1), .int 0, .null, .null, .null, .null])) :: ex)) (va_A ((h0, .inr (0, [.null, .int 0, .int 0, .int 0, .null, .null, .null, .null])) :: ex) sz)) 0 0 (va_A ((h0, .inr (0, [.null, .int 0, .int 0, .int 0, .null, .null, .null, .null])) :: ex) sz) := by
  refine Met.ofW (cc := cX2_init) (maxL := 2) (ret := none) (by decide +kernel) rfl ?_
  intro p e s m args below meth c s₁ B hml hv
  obtain ⟨rfl, hsz, hP, hK, hD0⟩ := hv
  have hx := B.exec
  have hb := B.bytes
  have hr := B.returns
  have hlocks := B.notSynchronized
  have hg : ∀ w ∈ lw_g, w.before _ s = true := fun w hw => atoms_spec (ws := Cond.code yX2_init cX2_init 2 none :: lw_g) B.pre w (List.mem_cons_of_mem _ hw)
  have hown : s.vm.findClass RX2 = some m.cls := findClass_of_methodNamed B.named
  have hin : meth.name = "<init>" := (name_of_methodNamed B.named B.method).1
  subst hsz
  have hK0 := hK
  have hD := hD0.self (sz := s.heap.size)
  generalize hAe : va_A ((h0, .inr (0, [.null, .int 0, .int 0, .int 0, .null, .null, .null, .null])) :: ex) s.heap.size = A at hD ⊢
  have hA : ∀ q : Nat, s.heap.size ≤ q → A q := fun q h => by rw [← hAe]; exact Or.inr h
  have hS : va_S A s.heap s.heap [] := va_S.rf
  have hP : va_P D z_cl ((h0, .inr (0, [.null, .int 0, .int 0, .int 0, .null, .null, .null, .null])) :: ex) s.heap := hP
  have hl := lv_entry ([.ref h0, .ref b0]) (n := 2) (Nat.le_of_ble_eq_true rfl)
  rw [lg_entry_eq]
  generalize (lg_sl ([.ref h0, .ref b0]) ++ List.replicate (2 - (lg_sl ([.ref h0, .ref b0])).length) Slot.unset).toArray = ls at hl ⊢
  have hl : lv_has ls 2 [(0, .ref h0), (1, .ref b0)] := hl
  refine lv_aload_n hx hb dX2_init_0 rfl (lv_at hl 0 rfl) ?_
  refine W.objInit hx hb hown (hg _ (z_g 72 (by decide +kernel) rfl)) (hg _ (z_g 62 (by decide +kernel) rfl)) (hg _ (z_g 63 (by decide +kernel) rfl)) rfl (by rw [hml]; exact hl.1) rfl dX2_init_1 (Nat.le_of_ble_eq_true rfl) (Nat.le_of_ble_eq_true rfl) ?_
  refine W.eq (g2 := F0 m 4 ls []) rfl ?_
  refine lv_aload_n hx hb dX2_init_4 rfl (lv_at hl 0 rfl) ?_
  refine lv_iconst hx hb (v := 0) dX2_init_5 zi_0 ?_
  refine va_put (ci := 0) (v := .int 0) (ty := .int) (C := RX0) (T := TX0) (N := 8) hx hb hg z_inX0 tyX0 tyX0_ok nmX0 hown hK hP hD hS 0 rfl rfl 1 (by decide) (hg _ (z_g 78 (by decide +kernel) rfl)) (fun _ h9 => h9) rfl (by decide +kernel) rfl rfl (Nat.le_of_ble_eq_true rfl) dX2_init_6 (fun H locs hP hD hS => ?_)
  have hP : va_P D z_cl ((h0, .inr (0, [.null, .int 0, .int 0, .int 0, .null, .null, .null, .null])) :: ex) H := hP
  have hD : va_D A ((h0, .inr (0, [.null, .int 0, .int 0, .int 0, .null, .null, .null, .null])) :: ex) := hD
  refine lv_aload_n hx hb dX2_init_9 rfl (lv_at hl 0 rfl) ?_
  refine lv_iconst hx hb (v := (-1)) dX2_init_10 zi_m1 ?_
  refine va_put (ci := 0) (v := .int (-1)) (ty := .int) (C := RX0) (T := TX0) (N := 8) hx hb hg z_inX0 tyX0 tyX0_ok nmX0 hown hK hP hD hS 0 rfl rfl 2 (by decide) (hg _ (z_g 79 (by decide +kernel) rfl)) (fun _ h9 => h9) rfl (by decide +kernel) rfl rfl (Nat.le_of_ble_eq_true rfl) dX2_init_11 (fun H locs hP hD hS => ?_)
  have hP : va_P D z_cl ((h0, .inr (0, [.null, .int 0, .int (-1), .int 0, .null, .null, .null, .null])) :: ex) H := hP
  have hD : va_D A ((h0, .inr (0, [.null, .int 0, .int (-1), .int 0, .null, .null, .null, .null])) :: ex) := hD
  refine lv_aload_n hx hb dX2_init_14 rfl (lv_at hl 0 rfl) ?_
  refine lv_iconst hx hb (v := 0) dX2_init_15 zi_0 ?_
  refine va_put (ci := 0) (v := .int 0) (ty := .int) (C := RX0) (T := TX0) (N := 8) hx hb hg z_inX0 tyX0 tyX0_ok nmX0 hown hK hP hD hS 0 rfl rfl 3 (by decide) (hg _ (z_g 80 (by decide +kernel) rfl)) (fun _ h9 => h9) rfl (by decide +kernel) rfl rfl (Nat.le_of_ble_eq_true rfl) dX2_init_16 (fun H locs hP hD hS => ?_)
  have hP : va_P D z_cl ((h0, .inr (0, [.null, .int 0, .int (-1), .int 0, .null, .null, .null, .null])) :: ex) H := hP
  have hD : va_D A ((h0, .inr (0, [.null, .int 0, .int (-1), .int 0, .null, .null, .null, .null])) :: ex) := hD
  refine lv_aload_n hx hb dX2_init_19 rfl (lv_at hl 0 rfl) ?_
  refine lv_aload_n hx hb dX2_init_20 rfl (lv_at hl 1 rfl) ?_
  refine va_putF (ci := 0) (v := .ref b0) (ty := .array .int) (C := RX0) (T := TX0) (N := 8) hx hb hg z_inX0 tyX0 tyX0_ok nmX0 hown hK hP hD hS 0 rfl rfl 0 (by decide) (hg _ (z_g 77 (by decide +kernel) rfl)) (fun _ h9 => h9) rfl hin rfl (by decide +kernel) rfl rfl (Nat.le_of_ble_eq_true rfl) dX2_init_21 (fun H locs hP hD hS => ?_)
  have hP : va_P D z_cl ((h0, .inr (0, [.ref b0, .int 0, .int (-1), .int 0, .null, .null, .null, .null])) :: ex) H := hP
  have hD : va_D A ((h0, .inr (0, [.ref b0, .int 0, .int (-1), .int 0, .null, .null, .null, .null])) :: ex) := hD
  exact W.vret hx hb hr (fun t ht hW => ⟨⟨(), rfl, trivial, by rw [ht]; exact hP, va_K.moved hW.alike (hK.sub [] rfl), hD⟩, hS.F ht⟩) hS.2.2 dX2_init_24
