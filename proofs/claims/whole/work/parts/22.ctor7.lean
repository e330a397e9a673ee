def z_li (l : List Nat) : Nat → Nat := fun k => l.getD k 0
def z_lc (c : ClassId) (l : List ClassId) : Nat → ClassId := fun k => l.getD k c
/-- what the class holds at first -/
def z_S0 : ZS := (fun k => match k with
  | 0 => fun j => match j with
    | 5 => 30
    | 6 => 3
    | 7 => 8
    | _ => 0
  | 1 => fun j => match j with
    | 2 => -1
    | _ => 0
  | 7 => fun j => match j with
    | 2 => -1
    | _ => 0
  | 18 => fun j => match j with
    | 2 => -1
    | _ => 0
  | 19 => fun j => match j with
    | 2 => -1
    | _ => 0
  | 20 => fun j => match j with
    | 2 => -1
    | _ => 0
  | 21 => fun j => match j with
    | 2 => -1
    | _ => 0
  | _ => fun _ => 0, fun _ _ => 0)
theorem va_at_q {D : va_G} {cl : List vw_C} {a n : Nat} {cA : ClassId} {f g : Nat → Option Nat} {H : Heap} (h : ∀ j, j < n → f j = g j) (h1 : va_at D cl (a, .inl (cA, n, .inr (.inr (.inr (.inr f))))) H) : va_at D cl (a, .inl (cA, n, .inr (.inr (.inr (.inr g))))) H := by
  have h2 : H[a]? = some (vp_cell cA (n, .inr (.inr (.inr (.inr f))))) := h1
  show H[a]? = some (vp_cell cA (n, .inr (.inr (.inr (.inr g)))))
  rw [h2, vp_cell_q, vp_cell_q]
  unfold arrV
  congr 2
  congr 1
  funext j
  show va_rf (f j.val) = va_rf (g j.val)
  rw [h j.val j.isLt]
theorem z_Pq {D : va_G} {cl : List vw_C} {a n : Nat} {cA : ClassId} {f g : Nat → Option Nat} {H : Heap} {o : Nat × va_E} {ws : va_W} (h : ∀ j, j < n → f j = g j) (hP : va_P D cl (o :: (a, .inl (cA, n, .inr (.inr (.inr (.inr f))))) :: ws) H) : va_P D cl (o :: (a, .inl (cA, n, .inr (.inr (.inr (.inr g))))) :: ws) H := fun k q hk => match k, hk with
  | 0, hk => hP 0 q hk
  | 1, hk => by
    cases hk
    exact va_at_q h (hP 1 _ rfl)
  | k + 2, hk => hP (k + 2) q hk
set_option maxHeartbeats 8000000 in
set_option maxRecDepth 100000 in
theorem in_X7_init (l : Launch) (D : va_G) (h0 : Nat) (sz : Nat) : Met l yX7_init (Cond.code yX7_init cX7_init 2 none :: lw_g) ({ frames := 3, cells := 25, slots := 368, locals := 53 } : Room) (va_Pc [.ref h0] (fun U => U.heap.size = sz ∧ va_P D z_cl [(h0, .inr (6, [.null, .null, .null, .null, .null, .int 0, .int 0, .int 0, .int 0, .int 0, .int 0]))] U.heap ∧ va_K D z_cl [] U ∧ va_D (fun _ => True) [(h0, .inr (6, [.null, .null, .null, .null, .null, .int 0, .int 0, .int 0, .int 0, .int 0, .int 0]))] ∧ va_AO "NineBooks$Sheet" U ∧ z_nN U)) (va_Qv (fun _ : Unit => True) (fun _ t => ∃ (q : Nat → Nat) (cA : Nat → ClassId), q 0 = h0 ∧ va_P D z_cl (z_ws cA q z_S0 (z_shC [])) t.heap ∧ (∀ (k t2 n b : Nat), (z_shC [])[k]? = some (.inl (t2, n, b)) → ArrOfT t (cA k) (z_ty t2) ∧ va_RA t (cA k) (z_ty t2)) ∧ va_D (va_A [(h0, .inr (6, [.null, .null, .null, .null, .null, .int 0, .int 0, .int 0, .int 0, .int 0, .int 0]))] sz) (z_ws cA q z_S0 (z_shC []))) (va_A [(h0, .inr (6, [.null, .null, .null, .null, .null, .int 0, .int 0, .int 0, .int 0, .int 0, .int 0]))] sz)) 25 368 (va_A [(h0, .inr (6, [.null, .null, .null, .null, .null, .int 0, .int 0, .int 0, .int 0, .int 0, .int 0]))] sz) := by
  refine Met.ofW (cc := cX7_init) (maxL := 2) (ret := none) (by decide +kernel) rfl ?_
  intro p e s m args below meth c s₁ B hml hv
  obtain ⟨rfl, hsz, hP, hK, hD0, hAO, hN⟩ := hv
  have hx := B.exec
  have hb := B.bytes
  have hr := B.returns
  have hlocks := B.notSynchronized
  have hg : ∀ w ∈ lw_g, w.before _ s = true := fun w hw => atoms_spec (ws := Cond.code yX7_init cX7_init 2 none :: lw_g) B.pre w (List.mem_cons_of_mem _ hw)
  have hown : s.vm.findClass RX7 = some m.cls := findClass_of_methodNamed B.named
  have hin : meth.name = "<init>" := (name_of_methodNamed B.named B.method).1
  subst hsz
  have hK0 := hK
  have hD := hD0.self (sz := s.heap.size)
  generalize hAe : va_A [(h0, .inr (6, [.null, .null, .null, .null, .null, .int 0, .int 0, .int 0, .int 0, .int 0, .int 0]))] s.heap.size = A at hD ⊢
  have hA : ∀ q : Nat, s.heap.size ≤ q → A q := fun q h => by rw [← hAe]; exact Or.inr h
  have hS : va_S A s.heap s.heap [] := va_S.rf
  have hP : va_P D z_cl [(h0, .inr (6, [.null, .null, .null, .null, .null, .int 0, .int 0, .int 0, .int 0, .int 0, .int 0]))] s.heap := hP
  have hl := lv_entry ([.ref h0]) (n := 2) (Nat.le_of_ble_eq_true rfl)
  rw [lg_entry_eq]
  generalize (lg_sl ([.ref h0]) ++ List.replicate (2 - (lg_sl ([.ref h0])).length) Slot.unset).toArray = ls at hl ⊢
  have hl : lv_has ls 2 [(0, .ref h0)] := hl
  refine lv_aload_n hx hb dX7_init_0 rfl (lv_at hl 0 rfl) ?_
  refine W.objInit hx hb hown (hg _ (z_g 61 (by decide +kernel) rfl)) (hg _ (z_g 62 (by decide +kernel) rfl)) (hg _ (z_g 63 (by decide +kernel) rfl)) rfl (by rw [hml]; exact hl.1) rfl dX7_init_1 (Nat.le_of_ble_eq_true rfl) (Nat.le_of_ble_eq_true rfl) ?_
  refine W.eq (g2 := F0 m 4 ls []) rfl ?_
  refine sg_X7_init_4 (cells := 0) (slots := 0) h0 (.null) (.null) (.null) (.null) (.null) (.int 0) (.int 0) (.int 0) (.int 0) (.int 0) (.int 0) [] hx hb hml hg hown hin hK0 hA hAO hN (Nat.le_of_ble_eq_true rfl) (Nat.le_of_ble_eq_true rfl) (Nat.le_of_ble_eq_true rfl) (Nat.le_of_ble_eq_true rfl) hl hS hP hD (fun q5_0_0 q3_9_1_0 q11_9_1_0 q19_9_1_0 q27_9_1_0 q35_9_1_0 c3_9_1_0 c11_9_1_0 c19_9_1_0 c27_9_1_0 c35_9_1_0 H locs hP hD hS hKn0 => ?_)
  have hP : va_P D z_cl ((h0, .inr (6, [.ref q5_0_0, (.null), (.null), (.null), (.null), (.int 0), (.int 0), (.int 0), (.int 0), (.int 0), (.int 0)])) :: (((((([] ++ [(q3_9_1_0, .inl (c3_9_1_0, (35, .inl (fun _ => 0))))]) ++ [(q11_9_1_0, .inl (c11_9_1_0, (9, .inl (fun _ => 0))))]) ++ [(q19_9_1_0, .inl (c19_9_1_0, (9, .inl (fun _ => 0))))]) ++ [(q27_9_1_0, .inl (c27_9_1_0, (9, .inl (fun _ => 0))))]) ++ [(q35_9_1_0, .inl (c35_9_1_0, (9, .inl (fun _ => 0))))]) ++ [(q5_0_0, .inr (0, [.ref q3_9_1_0, .int 0, .int (-1), .int 0, .ref q11_9_1_0, .ref q19_9_1_0, .ref q27_9_1_0, .ref q35_9_1_0]))])) H := hP
  have hD : va_D A ((h0, .inr (6, [.ref q5_0_0, (.null), (.null), (.null), (.null), (.int 0), (.int 0), (.int 0), (.int 0), (.int 0), (.int 0)])) :: (((((([] ++ [(q3_9_1_0, .inl (c3_9_1_0, (35, .inl (fun _ => 0))))]) ++ [(q11_9_1_0, .inl (c11_9_1_0, (9, .inl (fun _ => 0))))]) ++ [(q19_9_1_0, .inl (c19_9_1_0, (9, .inl (fun _ => 0))))]) ++ [(q27_9_1_0, .inl (c27_9_1_0, (9, .inl (fun _ => 0))))]) ++ [(q35_9_1_0, .inl (c35_9_1_0, (9, .inl (fun _ => 0))))]) ++ [(q5_0_0, .inr (0, [.ref q3_9_1_0, .int 0, .int (-1), .int 0, .ref q11_9_1_0, .ref q19_9_1_0, .ref q27_9_1_0, .ref q35_9_1_0]))])) := hD
  generalize hw1 : ((((((([] ++ [(q3_9_1_0, .inl (c3_9_1_0, (35, .inl (fun _ => 0))))]) ++ [(q11_9_1_0, .inl (c11_9_1_0, (9, .inl (fun _ => 0))))]) ++ [(q19_9_1_0, .inl (c19_9_1_0, (9, .inl (fun _ => 0))))]) ++ [(q27_9_1_0, .inl (c27_9_1_0, (9, .inl (fun _ => 0))))]) ++ [(q35_9_1_0, .inl (c35_9_1_0, (9, .inl (fun _ => 0))))]) ++ [(q5_0_0, .inr (0, [.ref q3_9_1_0, .int 0, .int (-1), .int 0, .ref q11_9_1_0, .ref q19_9_1_0, .ref q27_9_1_0, .ref q35_9_1_0]))]) : va_W) = ws1 at hP hD
  refine sg_X7_init_15 (cells := 6) (slots := 79) h0 (.ref q5_0_0) ((.null)) ((.null)) ((.null)) ((.null)) ((.int 0)) ((.int 0)) ((.int 0)) ((.int 0)) ((.int 0)) ((.int 0)) ws1 hx hb hml hg hown hin hK0 hA hAO hN (Nat.le_of_ble_eq_true rfl) (Nat.le_of_ble_eq_true rfl) (Nat.le_of_ble_eq_true rfl) (Nat.le_of_ble_eq_true rfl) hl hS hP hD (fun q16_0_1 q3_20_1_1 q11_20_1_1 q19_20_1_1 c3_20_1_1 c11_20_1_1 c19_20_1_1 H locs hP hD hS hKn1 => ?_)
  have hP : va_P D z_cl ((h0, .inr (6, [(.ref q5_0_0), .ref q16_0_1, (.null), (.null), (.null), (.int 0), (.int 0), (.int 0), (.int 0), (.int 0), (.int 0)])) :: ((((ws1 ++ [(q3_20_1_1, .inl (c3_20_1_1, (23, .inl (fun _ => 0))))]) ++ [(q11_20_1_1, .inl (c11_20_1_1, (6, .inl (fun _ => 0))))]) ++ [(q19_20_1_1, .inl (c19_20_1_1, (6, .inl (fun _ => 0))))]) ++ [(q16_0_1, .inr (2, [.ref q3_20_1_1, .int 0, .int (-1), .int 0, .ref q11_20_1_1, .ref q19_20_1_1]))])) H := hP
  have hD : va_D A ((h0, .inr (6, [(.ref q5_0_0), .ref q16_0_1, (.null), (.null), (.null), (.int 0), (.int 0), (.int 0), (.int 0), (.int 0), (.int 0)])) :: ((((ws1 ++ [(q3_20_1_1, .inl (c3_20_1_1, (23, .inl (fun _ => 0))))]) ++ [(q11_20_1_1, .inl (c11_20_1_1, (6, .inl (fun _ => 0))))]) ++ [(q19_20_1_1, .inl (c19_20_1_1, (6, .inl (fun _ => 0))))]) ++ [(q16_0_1, .inr (2, [.ref q3_20_1_1, .int 0, .int (-1), .int 0, .ref q11_20_1_1, .ref q19_20_1_1]))])) := hD
  generalize hw2 : (((((ws1 ++ [(q3_20_1_1, .inl (c3_20_1_1, (23, .inl (fun _ => 0))))]) ++ [(q11_20_1_1, .inl (c11_20_1_1, (6, .inl (fun _ => 0))))]) ++ [(q19_20_1_1, .inl (c19_20_1_1, (6, .inl (fun _ => 0))))]) ++ [(q16_0_1, .inr (2, [.ref q3_20_1_1, .int 0, .int (-1), .int 0, .ref q11_20_1_1, .ref q19_20_1_1]))]) : va_W) = ws2 at hP hD
  refine sg_X7_init_26 (cells := 10) (slots := 120) h0 ((.ref q5_0_0)) (.ref q16_0_1) ((.null)) ((.null)) ((.null)) ((.int 0)) ((.int 0)) ((.int 0)) ((.int 0)) ((.int 0)) ((.int 0)) ws2 hx hb hml hg hown hin hK0 hA hAO hN (Nat.le_of_ble_eq_true rfl) (Nat.le_of_ble_eq_true rfl) (Nat.le_of_ble_eq_true rfl) (Nat.le_of_ble_eq_true rfl) hl hS hP hD (fun q27_0_2 q7_31_1_2 c7_31_1_2 H locs hP hD hS hKn2 => ?_)
  have hP : va_P D z_cl ((h0, .inr (6, [(.ref q5_0_0), (.ref q16_0_1), .ref q27_0_2, (.null), (.null), (.int 0), (.int 0), (.int 0), (.int 0), (.int 0), (.int 0)])) :: ((ws2 ++ [(q7_31_1_2, .inl (c7_31_1_2, (9, .inl (fun _ => 0))))]) ++ [(q27_0_2, .inr (1, [.ref q7_31_1_2, .int 0, .int 0]))])) H := hP
  have hD : va_D A ((h0, .inr (6, [(.ref q5_0_0), (.ref q16_0_1), .ref q27_0_2, (.null), (.null), (.int 0), (.int 0), (.int 0), (.int 0), (.int 0), (.int 0)])) :: ((ws2 ++ [(q7_31_1_2, .inl (c7_31_1_2, (9, .inl (fun _ => 0))))]) ++ [(q27_0_2, .inr (1, [.ref q7_31_1_2, .int 0, .int 0]))])) := hD
  generalize hw3 : (((ws2 ++ [(q7_31_1_2, .inl (c7_31_1_2, (9, .inl (fun _ => 0))))]) ++ [(q27_0_2, .inr (1, [.ref q7_31_1_2, .int 0, .int 0]))]) : va_W) = ws3 at hP hD
  refine sg_X7_init_37 (cells := 12) (slots := 132) h0 ((.ref q5_0_0)) ((.ref q16_0_1)) (.ref q27_0_2) ((.null)) ((.null)) ((.int 0)) ((.int 0)) ((.int 0)) ((.int 0)) ((.int 0)) ((.int 0)) ws3 hx hb hml hg hown hin hK0 hA hAO hN (Nat.le_of_ble_eq_true rfl) (Nat.le_of_ble_eq_true rfl) (Nat.le_of_ble_eq_true rfl) (Nat.le_of_ble_eq_true rfl) hl hS hP hD (fun q38_0_3 q7_42_1_3 q15_42_1_3 q23_42_1_3 c7_42_1_3 c15_42_1_3 c23_42_1_3 H locs hP hD hS hKn3 => ?_)
  have hP : va_P D z_cl ((h0, .inr (6, [(.ref q5_0_0), (.ref q16_0_1), (.ref q27_0_2), .ref q38_0_3, (.null), (.int 0), (.int 0), (.int 0), (.int 0), (.int 0), (.int 0)])) :: ((((ws3 ++ [(q7_42_1_3, .inl (c7_42_1_3, (8, .inl (fun _ => 0))))]) ++ [(q15_42_1_3, .inl (c15_42_1_3, (8, .inl (fun _ => 0))))]) ++ [(q23_42_1_3, .inl (c23_42_1_3, (8, .inl (fun _ => 0))))]) ++ [(q38_0_3, .inr (4, [.ref q7_42_1_3, .ref q15_42_1_3, .ref q23_42_1_3, .int 0]))])) H := hP
  have hD : va_D A ((h0, .inr (6, [(.ref q5_0_0), (.ref q16_0_1), (.ref q27_0_2), .ref q38_0_3, (.null), (.int 0), (.int 0), (.int 0), (.int 0), (.int 0), (.int 0)])) :: ((((ws3 ++ [(q7_42_1_3, .inl (c7_42_1_3, (8, .inl (fun _ => 0))))]) ++ [(q15_42_1_3, .inl (c15_42_1_3, (8, .inl (fun _ => 0))))]) ++ [(q23_42_1_3, .inl (c23_42_1_3, (8, .inl (fun _ => 0))))]) ++ [(q38_0_3, .inr (4, [.ref q7_42_1_3, .ref q15_42_1_3, .ref q23_42_1_3, .int 0]))])) := hD
  generalize hw4 : (((((ws3 ++ [(q7_42_1_3, .inl (c7_42_1_3, (8, .inl (fun _ => 0))))]) ++ [(q15_42_1_3, .inl (c15_42_1_3, (8, .inl (fun _ => 0))))]) ++ [(q23_42_1_3, .inl (c23_42_1_3, (8, .inl (fun _ => 0))))]) ++ [(q38_0_3, .inr (4, [.ref q7_42_1_3, .ref q15_42_1_3, .ref q23_42_1_3, .int 0]))]) : va_W) = ws4 at hP hD
  refine sg_X7_init_48 (cells := 16) (slots := 160) h0 ((.ref q5_0_0)) ((.ref q16_0_1)) ((.ref q27_0_2)) (.ref q38_0_3) ((.null)) ((.int 0)) ((.int 0)) ((.int 0)) ((.int 0)) ((.int 0)) ((.int 0)) ws4 hx hb hml hg hown hin hK0 hA hAO hN (Nat.le_of_ble_eq_true rfl) (Nat.le_of_ble_eq_true rfl) (Nat.le_of_ble_eq_true rfl) (Nat.le_of_ble_eq_true rfl) hl hS hP hD (fun q50_4 c50_4 H locs hP hD hS hKn4 => ?_)
  have hKs : va_K D z_cl [(c50_4, .object "NineBooks$Sheet")] s := hKn4
  have hP : va_P D z_cl ((h0, .inr (6, [(.ref q5_0_0), (.ref q16_0_1), (.ref q27_0_2), (.ref q38_0_3), .ref q50_4, (.int 0), (.int 0), (.int 0), (.int 0), (.int 0), (.int 0)])) :: (q50_4, .inl (c50_4, 4, .inr (.inr (.inr (.inr (fun _ => none)))))) :: ws4) H := hP
  have hD : va_D A ((h0, .inr (6, [(.ref q5_0_0), (.ref q16_0_1), (.ref q27_0_2), (.ref q38_0_3), .ref q50_4, (.int 0), (.int 0), (.int 0), (.int 0), (.int 0), (.int 0)])) :: (q50_4, .inl (c50_4, 4, .inr (.inr (.inr (.inr (fun _ => none)))))) :: ws4) := hD
  refine sg_X7_init_56 (cells := 17) (slots := 164) h0 ((.ref q5_0_0)) ((.ref q16_0_1)) ((.ref q27_0_2)) ((.ref q38_0_3)) ((.int 0)) ((.int 0)) ((.int 0)) ((.int 0)) ((.int 0)) ((.int 0)) ws4 q50_4 c50_4 (fun _ => none) hKs hx hb hml hg hown hin hK0 hA hAO hN (Nat.le_of_ble_eq_true rfl) (Nat.le_of_ble_eq_true rfl) (Nat.le_of_ble_eq_true rfl) (Nat.le_of_ble_eq_true rfl) hl hS hP hD (fun  H locs ls hP hD hS hKn5 hl => ?_)
  have hP : va_P D z_cl ((h0, .inr (6, [(.ref q5_0_0), (.ref q16_0_1), (.ref q27_0_2), (.ref q38_0_3), .ref q50_4, .int 30, .int 3, .int 8, .int 0, .int 0, .int 0])) :: (q50_4, .inl (c50_4, 4, .inr (.inr (.inr (.inr (fun _ => none)))))) :: ws4) H := hP
  have hD : va_D A ((h0, .inr (6, [(.ref q5_0_0), (.ref q16_0_1), (.ref q27_0_2), (.ref q38_0_3), .ref q50_4, .int 30, .int 3, .int 8, .int 0, .int 0, .int 0])) :: (q50_4, .inl (c50_4, 4, .inr (.inr (.inr (.inr (fun _ => none)))))) :: ws4) := hD
  refine sg_X7_init_90 (cells := 17) (slots := 164) h0 ((.ref q5_0_0)) ((.ref q16_0_1)) ((.ref q27_0_2)) ((.ref q38_0_3)) (.int 30) (.int 3) (.int 8) (.int 0) (.int 0) (.int 0) ws4 q50_4 c50_4 (fun _ => none) hKs (0) (by decide) (by unfold vp_in; decide) hx hb hml hg hown hin hK0 hA hAO hN (Nat.le_of_ble_eq_true rfl) (Nat.le_of_ble_eq_true rfl) (Nat.le_of_ble_eq_true rfl) (Nat.le_of_ble_eq_true rfl) hl hS hP hD (fun q104_0_6 q7_108_1_6 c7_108_1_6 H locs ls hP hD hS hKn6 hl => ?_)
  have hP : va_P D z_cl ((h0, .inr (6, [(.ref q5_0_0), (.ref q16_0_1), (.ref q27_0_2), (.ref q38_0_3), .ref q50_4, (.int 30), (.int 3), (.int 8), (.int 0), (.int 0), (.int 0)])) :: (q50_4, .inl (c50_4, 4, .inr (.inr (.inr (.inr (va_up (fun _ => none) (Int32.toNatClampNeg (0)) (some q104_0_6))))))) :: ((ws4 ++ [(q7_108_1_6, .inl (c7_108_1_6, (48, .inl (fun _ => 0))))]) ++ [(q104_0_6, .inr (5, [.ref q7_108_1_6, .int 0, .int (-1)]))])) H := hP
  have hD : va_D A ((h0, .inr (6, [(.ref q5_0_0), (.ref q16_0_1), (.ref q27_0_2), (.ref q38_0_3), .ref q50_4, (.int 30), (.int 3), (.int 8), (.int 0), (.int 0), (.int 0)])) :: (q50_4, .inl (c50_4, 4, .inr (.inr (.inr (.inr (va_up (fun _ => none) (Int32.toNatClampNeg (0)) (some q104_0_6))))))) :: ((ws4 ++ [(q7_108_1_6, .inl (c7_108_1_6, (48, .inl (fun _ => 0))))]) ++ [(q104_0_6, .inr (5, [.ref q7_108_1_6, .int 0, .int (-1)]))])) := hD
  generalize hw5 : (((ws4 ++ [(q7_108_1_6, .inl (c7_108_1_6, (48, .inl (fun _ => 0))))]) ++ [(q104_0_6, .inr (5, [.ref q7_108_1_6, .int 0, .int (-1)]))]) : va_W) = ws5 at hP hD
  refine sg_X7_init_90 (cells := 19) (slots := 215) h0 ((.ref q5_0_0)) ((.ref q16_0_1)) ((.ref q27_0_2)) ((.ref q38_0_3)) ((.int 30)) ((.int 3)) ((.int 8)) ((.int 0)) ((.int 0)) ((.int 0)) ws5 q50_4 c50_4 (va_up (fun _ => none) (Int32.toNatClampNeg (0)) (some q104_0_6)) hKs (0 + 1) (by decide) (by unfold vp_in; decide) hx hb hml hg hown hin hK0 hA hAO hN (Nat.le_of_ble_eq_true rfl) (Nat.le_of_ble_eq_true rfl) (Nat.le_of_ble_eq_true rfl) (Nat.le_of_ble_eq_true rfl) hl hS hP hD (fun q104_0_7 q7_108_1_7 c7_108_1_7 H locs ls hP hD hS hKn7 hl => ?_)
  have hP : va_P D z_cl ((h0, .inr (6, [(.ref q5_0_0), (.ref q16_0_1), (.ref q27_0_2), (.ref q38_0_3), .ref q50_4, (.int 30), (.int 3), (.int 8), (.int 0), (.int 0), (.int 0)])) :: (q50_4, .inl (c50_4, 4, .inr (.inr (.inr (.inr (va_up (va_up (fun _ => none) (Int32.toNatClampNeg (0)) (some q104_0_6)) (Int32.toNatClampNeg (0 + 1)) (some q104_0_7))))))) :: ((ws5 ++ [(q7_108_1_7, .inl (c7_108_1_7, (48, .inl (fun _ => 0))))]) ++ [(q104_0_7, .inr (5, [.ref q7_108_1_7, .int 0, .int (-1)]))])) H := hP
  have hD : va_D A ((h0, .inr (6, [(.ref q5_0_0), (.ref q16_0_1), (.ref q27_0_2), (.ref q38_0_3), .ref q50_4, (.int 30), (.int 3), (.int 8), (.int 0), (.int 0), (.int 0)])) :: (q50_4, .inl (c50_4, 4, .inr (.inr (.inr (.inr (va_up (va_up (fun _ => none) (Int32.toNatClampNeg (0)) (some q104_0_6)) (Int32.toNatClampNeg (0 + 1)) (some q104_0_7))))))) :: ((ws5 ++ [(q7_108_1_7, .inl (c7_108_1_7, (48, .inl (fun _ => 0))))]) ++ [(q104_0_7, .inr (5, [.ref q7_108_1_7, .int 0, .int (-1)]))])) := hD
  generalize hw6 : (((ws5 ++ [(q7_108_1_7, .inl (c7_108_1_7, (48, .inl (fun _ => 0))))]) ++ [(q104_0_7, .inr (5, [.ref q7_108_1_7, .int 0, .int (-1)]))]) : va_W) = ws6 at hP hD
  refine sg_X7_init_90 (cells := 21) (slots := 266) h0 ((.ref q5_0_0)) ((.ref q16_0_1)) ((.ref q27_0_2)) ((.ref q38_0_3)) ((.int 30)) ((.int 3)) ((.int 8)) ((.int 0)) ((.int 0)) ((.int 0)) ws6 q50_4 c50_4 (va_up (va_up (fun _ => none) (Int32.toNatClampNeg (0)) (some q104_0_6)) (Int32.toNatClampNeg (0 + 1)) (some q104_0_7)) hKs (0 + 1 + 1) (by decide) (by unfold vp_in; decide) hx hb hml hg hown hin hK0 hA hAO hN (Nat.le_of_ble_eq_true rfl) (Nat.le_of_ble_eq_true rfl) (Nat.le_of_ble_eq_true rfl) (Nat.le_of_ble_eq_true rfl) hl hS hP hD (fun q104_0_8 q7_108_1_8 c7_108_1_8 H locs ls hP hD hS hKn8 hl => ?_)
  have hP : va_P D z_cl ((h0, .inr (6, [(.ref q5_0_0), (.ref q16_0_1), (.ref q27_0_2), (.ref q38_0_3), .ref q50_4, (.int 30), (.int 3), (.int 8), (.int 0), (.int 0), (.int 0)])) :: (q50_4, .inl (c50_4, 4, .inr (.inr (.inr (.inr (va_up (va_up (va_up (fun _ => none) (Int32.toNatClampNeg (0)) (some q104_0_6)) (Int32.toNatClampNeg (0 + 1)) (some q104_0_7)) (Int32.toNatClampNeg (0 + 1 + 1)) (some q104_0_8))))))) :: ((ws6 ++ [(q7_108_1_8, .inl (c7_108_1_8, (48, .inl (fun _ => 0))))]) ++ [(q104_0_8, .inr (5, [.ref q7_108_1_8, .int 0, .int (-1)]))])) H := hP
  have hD : va_D A ((h0, .inr (6, [(.ref q5_0_0), (.ref q16_0_1), (.ref q27_0_2), (.ref q38_0_3), .ref q50_4, (.int 30), (.int 3), (.int 8), (.int 0), (.int 0), (.int 0)])) :: (q50_4, .inl (c50_4, 4, .inr (.inr (.inr (.inr (va_up (va_up (va_up (fun _ => none) (Int32.toNatClampNeg (0)) (some q104_0_6)) (Int32.toNatClampNeg (0 + 1)) (some q104_0_7)) (Int32.toNatClampNeg (0 + 1 + 1)) (some q104_0_8))))))) :: ((ws6 ++ [(q7_108_1_8, .inl (c7_108_1_8, (48, .inl (fun _ => 0))))]) ++ [(q104_0_8, .inr (5, [.ref q7_108_1_8, .int 0, .int (-1)]))])) := hD
  generalize hw7 : (((ws6 ++ [(q7_108_1_8, .inl (c7_108_1_8, (48, .inl (fun _ => 0))))]) ++ [(q104_0_8, .inr (5, [.ref q7_108_1_8, .int 0, .int (-1)]))]) : va_W) = ws7 at hP hD
  refine sg_X7_init_90 (cells := 23) (slots := 317) h0 ((.ref q5_0_0)) ((.ref q16_0_1)) ((.ref q27_0_2)) ((.ref q38_0_3)) ((.int 30)) ((.int 3)) ((.int 8)) ((.int 0)) ((.int 0)) ((.int 0)) ws7 q50_4 c50_4 (va_up (va_up (va_up (fun _ => none) (Int32.toNatClampNeg (0)) (some q104_0_6)) (Int32.toNatClampNeg (0 + 1)) (some q104_0_7)) (Int32.toNatClampNeg (0 + 1 + 1)) (some q104_0_8)) hKs (0 + 1 + 1 + 1) (by decide) (by unfold vp_in; decide) hx hb hml hg hown hin hK0 hA hAO hN (Nat.le_of_ble_eq_true rfl) (Nat.le_of_ble_eq_true rfl) (Nat.le_of_ble_eq_true rfl) (Nat.le_of_ble_eq_true rfl) hl hS hP hD (fun q104_0_9 q7_108_1_9 c7_108_1_9 H locs ls hP hD hS hKn9 hl => ?_)
  have hP : va_P D z_cl ((h0, .inr (6, [(.ref q5_0_0), (.ref q16_0_1), (.ref q27_0_2), (.ref q38_0_3), .ref q50_4, (.int 30), (.int 3), (.int 8), (.int 0), (.int 0), (.int 0)])) :: (q50_4, .inl (c50_4, 4, .inr (.inr (.inr (.inr (va_up (va_up (va_up (va_up (fun _ => none) (Int32.toNatClampNeg (0)) (some q104_0_6)) (Int32.toNatClampNeg (0 + 1)) (some q104_0_7)) (Int32.toNatClampNeg (0 + 1 + 1)) (some q104_0_8)) (Int32.toNatClampNeg (0 + 1 + 1 + 1)) (some q104_0_9))))))) :: ((ws7 ++ [(q7_108_1_9, .inl (c7_108_1_9, (48, .inl (fun _ => 0))))]) ++ [(q104_0_9, .inr (5, [.ref q7_108_1_9, .int 0, .int (-1)]))])) H := hP
  have hD : va_D A ((h0, .inr (6, [(.ref q5_0_0), (.ref q16_0_1), (.ref q27_0_2), (.ref q38_0_3), .ref q50_4, (.int 30), (.int 3), (.int 8), (.int 0), (.int 0), (.int 0)])) :: (q50_4, .inl (c50_4, 4, .inr (.inr (.inr (.inr (va_up (va_up (va_up (va_up (fun _ => none) (Int32.toNatClampNeg (0)) (some q104_0_6)) (Int32.toNatClampNeg (0 + 1)) (some q104_0_7)) (Int32.toNatClampNeg (0 + 1 + 1)) (some q104_0_8)) (Int32.toNatClampNeg (0 + 1 + 1 + 1)) (some q104_0_9))))))) :: ((ws7 ++ [(q7_108_1_9, .inl (c7_108_1_9, (48, .inl (fun _ => 0))))]) ++ [(q104_0_9, .inr (5, [.ref q7_108_1_9, .int 0, .int (-1)]))])) := hD
  generalize hw8 : (((ws7 ++ [(q7_108_1_9, .inl (c7_108_1_9, (48, .inl (fun _ => 0))))]) ++ [(q104_0_9, .inr (5, [.ref q7_108_1_9, .int 0, .int (-1)]))]) : va_W) = ws8 at hP hD
  refine lv_iload_n hx hb dX7_init_90 rfl (lv_at hl 0 rfl) ?_
  refine lv_aload_n hx hb dX7_init_91 rfl (lv_at hl 1 rfl) ?_
  refine va_get (ci := 6) (C := RX7) (T := TX7) (N := 11) hx hb hg z_inX7 hown hK0 hP 0 rfl rfl 4 (by decide) (hg _ (z_g 172 (by decide +kernel) rfl)) (fun _ h9 => h9) (v := .ref q50_4) rfl dX7_init_92 ?_
  refine va_alen hx hb hKs hP 1 0 rfl rfl (v := 4) rfl dX7_init_95 ?_
  refine lv_icmp_ge hx hb (tgt := 118) dX7_init_96 (by decide) (fun _ => ?_) (fun q => absurd (by decide) q)
  have hP := z_Pq (g := fun j => some ((z_li [h0, q5_0_0, q3_9_1_0, q11_9_1_0, q19_9_1_0, q27_9_1_0, q35_9_1_0, q16_0_1, q3_20_1_1, q11_20_1_1, q19_20_1_1, q27_0_2, q7_31_1_2, q38_0_3, q7_42_1_3, q15_42_1_3, q23_42_1_3, q50_4, q104_0_6, q104_0_7, q104_0_8, q104_0_9, q7_108_1_6, q7_108_1_7, q7_108_1_8, q7_108_1_9]) (18 + j))) (fun j hj => by rcases (show j = 0 ∨ j = 1 ∨ j = 2 ∨ j = 3 by omega) with rfl | rfl | rfl | rfl <;> rfl) hP
  have hD := hD.set (p := 1) (a := q50_4) (e := .inl (c50_4, 4, .inr (.inr (.inr (.inr (fun j => some ((z_li [h0, q5_0_0, q3_9_1_0, q11_9_1_0, q19_9_1_0, q27_9_1_0, q35_9_1_0, q16_0_1, q3_20_1_1, q11_20_1_1, q19_20_1_1, q27_0_2, q7_31_1_2, q38_0_3, q7_42_1_3, q15_42_1_3, q23_42_1_3, q50_4, q104_0_6, q104_0_7, q104_0_8, q104_0_9, q7_108_1_6, q7_108_1_7, q7_108_1_8, q7_108_1_9]) (18 + j)))))))) rfl
  subst hw8
  subst hw7
  subst hw6
  subst hw5
  subst hw4
  subst hw3
  subst hw2
  subst hw1
  simp only [List.cons_append, List.nil_append, List.append_assoc] at hP hD
  sorry

