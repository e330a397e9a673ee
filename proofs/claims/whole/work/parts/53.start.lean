theorem z_AsubL {B : Nat → Prop} {ws : va_W} {H0 H : Heap} {locs : List Loc} (hD : va_D (fun q : Nat => H0.size ≤ q) ws) (hS : va_S B H0 H locs) : ∀ x, va_A ws H.size x → H0.size ≤ x := by
  intro x hx
  rcases hx with ⟨k, e1, hk⟩ | hx
  · exact hD.2 k _ hk
  · exact Nat.le_trans hS.1 hx
theorem lz_join {A0 : Nat → Prop} {D : va_G} {wr w1 : va_W} {x : Nat × va_E} {H H1 : Heap} (hl : wr.length = 26) (hP : va_P D z_cl (wr ++ [x]) H) (hD : va_D A0 (wr ++ [x])) (hk : ∀ q : Nat, q < H.size → ¬ va_A [x] H.size q → H1[q]? = H[q]?) (hF : ∀ q, va_A [x] H.size q → A0 q) (hP1 : va_P D z_cl w1 H1) (hD1 : va_D (va_A [x] H.size) w1) : va_P D z_cl (wr ++ w1) H1 ∧ va_D A0 (wr ++ w1) := by
  refine va_join hP hD [26] (List.range 26) ?_ ?_ (by decide) (by decide) hk hF hP1 hD1
  · show [(wr ++ [x])[26]?] = [some x]
    rw [List.getElem?_append_right (by omega), hl]
    rfl
  · apply List.ext_getElem?
    intro i
    rw [List.getElem?_map, List.getElem?_map]
    by_cases hi : i < 26
    · rw [List.getElem?_range hi]
      have h2 : i < wr.length := by omega
      show some ((wr ++ [x])[i]?) = _
      rw [List.getElem?_append_left h2, List.getElem?_eq_getElem h2]
      rfl
    · rw [List.getElem?_eq_none (by rw [List.length_range]; omega), List.getElem?_eq_none (by omega)]
      rfl
set_option maxHeartbeats 8000000 in
set_option maxRecDepth 100000 in
theorem lz_start {p : Program} {e : Env} {s : State} {m : MethodId} {below : List Frame} {meth : Method} {c : Code} (l : Launch) {b L : Nat} {xs : Nat → Int32} {Q : State → Prop} (hL : L ≤ 3072) (hx : p.tables.exec = Jvm.exec) (hb : c.code = code) (hml : c.maxLocals = 4) (hown : s.vm.findClass "NineBooksLaw" = some m.cls) (hts : ∀ w ∈ lw_tbl, w.before #[Value.ref b] s = true) (hX : va_X b L xs s s.heap) (hbl : b < s.heap.size) (hend : ∀ (H : Heap) (ls : Array Slot), W p l e room_1 s m #[.ref b] below meth c H [] 846983 6561299 Q (F0 m 1289 ls [.int 1])) : W p l e room_1 s m #[Value.ref b] below meth c s.heap [] 0 0 Q (entryFrame m ([Value.ref b] : List Value).toArray 4) := by
  have hg : ∀ w ∈ lw_g, w.before #[Value.ref b] s = true := by
    intro w hw
    rcases List.mem_append.mp hw with h | h
    · exact z_xs_ok hts w h
    · exact hts w (List.mem_filter.mp h).1
  have hN : z_nN s := by
    intro w hw
    have hw2 := hts w (List.mem_filter.mp hw).1
    rcases z_nw_kind hw with ⟨a, i, x, y, rfl⟩ | ⟨x, rfl⟩
    · exact va_Nw.of rfl hw2
    · exact va_Nw.of rfl hw2
  have hAO : va_AO "NineBooks$Sheet" s := va_AO.of (hts _ (List.mem_of_getElem? (i := 152) (by decide +kernel)))
  have hA : ∀ q : Nat, s.heap.size ≤ q → (fun q : Nat => s.heap.size ≤ q) q := fun _ h => h
  obtain ⟨k0, i0, hKn0⟩ := u_known (C := RX0) (T := TX0) (N := 8) (n := 8) hg z_inX0 (hg _ (z_g 65 (by decide +kernel) rfl))
  obtain ⟨k1, i1, hKn1⟩ := u_known (C := RX1) (T := TX1) (N := 3) (n := 3) hg z_inX1 (hg _ (z_g 117 (by decide +kernel) rfl))
  obtain ⟨k2, i2, hKn2⟩ := u_known (C := RX3) (T := TX3) (N := 6) (n := 6) hg z_inX3 (hg _ (z_g 100 (by decide +kernel) rfl))
  obtain ⟨k3, i3, hKn3⟩ := u_known (C := RX4) (T := TX4) (N := 1) (n := 1) hg z_inX4 (hg _ (z_g 541 (by decide +kernel) rfl))
  obtain ⟨k4, i4, hKn4⟩ := u_known (C := RX5) (T := TX5) (N := 4) (n := 4) hg z_inX5 (hg _ (z_g 133 (by decide +kernel) rfl))
  obtain ⟨k5, i5, hKn5⟩ := u_known (C := RX6) (T := TX6) (N := 3) (n := 3) hg z_inX6 (hg _ (z_g 153 (by decide +kernel) rfl))
  obtain ⟨k6, i6, hKn6⟩ := u_known (C := RX7) (T := TX7) (N := 11) (n := 11) hg z_inX7 (hg _ (z_g 57 (by decide +kernel) rfl))
  obtain ⟨k7, i7, hKn7⟩ := u_known (C := RX8) (T := TX8) (N := 31) (n := 31) hg z_inX8 (hg _ (z_g 678 (by decide +kernel) rfl))
  obtain ⟨dC, dI, hKc⟩ : ∃ (dC : Nat → ClassId) (dI : Nat → Nat → Nat), ∀ (k : Nat) (q : vw_C), z_cl[k]? = some q → u_Kn s q.1 q.2.1 q.2.2 (dC k) (dI k) := by
    refine ⟨fun k => match k with | 0 => k0 | 1 => k1 | 2 => k2 | 3 => k3 | 4 => k4 | 5 => k5 | 6 => k6 | _ => k7, fun k => match k with | 0 => i0 | 1 => i1 | 2 => i2 | 3 => i3 | 4 => i4 | 5 => i5 | 6 => i6 | _ => i7, ?_⟩
    intro k q hq
    match k, hq with
    | 0, hq => cases hq; exact hKn0
    | 1, hq => cases hq; exact hKn1
    | 2, hq => cases hq; exact hKn2
    | 3, hq => cases hq; exact hKn3
    | 4, hq => cases hq; exact hKn4
    | 5, hq => cases hq; exact hKn5
    | 6, hq => cases hq; exact hKn6
    | 7, hq => cases hq; exact hKn7
    | k + 8, hq => simp [z_cl] at hq
  have hS : va_S (fun q : Nat => s.heap.size ≤ q) s.heap s.heap [] := va_S.rf
  obtain ⟨D, hDe⟩ : ∃ D : va_G, D = (dC, dI) := ⟨_, rfl⟩
  have hK : va_K D z_cl [] s := by
    subst hDe
    exact ⟨hKc, fun k q h => by simp at h⟩
  clear hKc hDe
  have hP : va_P D z_cl [] s.heap := fun k q h => by simp at h
  have hD : va_D (fun q : Nat => s.heap.size ≤ q) [] := ⟨fun i j p q h => by simp at h, fun k q h => by simp at h⟩
  have hl := lv_entry ([.ref b]) (n := 4) (Nat.le_of_ble_eq_true rfl)
  rw [lg_entry_eq]
  generalize (lg_sl ([.ref b]) ++ List.replicate (4 - (lg_sl ([.ref b])).length) Slot.unset).toArray = ls at hl ⊢
  have hl : lv_has ls 4 [(0, .ref b)] := hl
  refine va_new (ci := 6) (fs := [.null, .null, .null, .null, .null, .int 0, .int 0, .int 0, .int 0, .int 0, .int 0]) (C := RX7) (T := TX7) (N := 11) hx hb hg z_inX7 tyX7 tyX7_ok hown (hg _ (z_g 56 (by decide +kernel) rfl)) (hg _ (z_g 57 (by decide +kernel) rfl)) (hg _ (z_g 44 (by decide +kernel) rfl)) hK hP hD hS hA rfl (fun j hj => by rcases (show j = 0 ∨ j = 1 ∨ j = 2 ∨ j = 3 ∨ j = 4 ∨ j = 5 ∨ j = 6 ∨ j = 7 ∨ j = 8 ∨ j = 9 ∨ j = 10 by omega) with rfl | rfl | rfl | rfl | rfl | rfl | rfl | rfl | rfl | rfl | rfl <;> rfl) (Nat.le_of_ble_eq_true rfl) (Nat.le_of_ble_eq_true rfl) dL_law_0 (fun a H hP hD hS => ?_)
  refine lv_dup hx hb dL_law_3 rfl ?_
  have hP : va_P D z_cl [(a, .inr (6, [.null, .null, .null, .null, .null, .int 0, .int 0, .int 0, .int 0, .int 0, .int 0]))] H := hP
  have hD : va_D (fun q : Nat => s.heap.size ≤ q) [(a, .inr (6, [.null, .null, .null, .null, .null, .int 0, .int 0, .int 0, .int 0, .int 0, .int 0]))] := hD
  have hSo := hS
  have hDo := hD
  refine va_callv (va_runI (As := []) (rest := [.ref a]) ⟨hx, hb, hml, hown, hg⟩ (in_X7_init l D a H.size) (cwI 0 hg (z_gi (z_g 60 (by decide +kernel) rfl)) rfl rfl rfl (hg _ (z_g 44 (by decide +kernel) rfl)) (hg _ (z_g 58 (by decide +kernel) rfl)) (hg _ (z_g 59 (by decide +kernel) rfl)) rfl (by decide +kernel) ⟨(Nat.le_of_ble_eq_true rfl), (Nat.le_of_ble_eq_true rfl)⟩) ⟨fun a U g mk q => by obtain ⟨r0, r1, rP, rK, rD, rA, rN⟩ := q; exact ⟨r0, r1, rP, va_K.moved (u := U) (U := U.calling g mk a) (Vm.Alike.refl U.vm) rK, rD, va_AO.moved (u := U) (U := U.calling g mk a) (Vm.Alike.refl U.vm) rA, z_nN.same (s := U) (U := U.calling g mk a) rfl rN⟩, fun U hU hW => ⟨rfl, by rw [hU], by rw [hU]; exact hP, va_K.moved hW.alike hK, hD.weaken (fun _ _ _ _ => trivial), hAO.moved hW.alike, hN.warm hW⟩⟩ rfl rfl hl.1 rfl (lv_room (Nat.le_of_ble_eq_true rfl)) dL_law_4 ⟨(Nat.le_of_ble_eq_true rfl), (Nat.le_of_ble_eq_true rfl)⟩) hS (fun x _ h => z_Asub hD hS hA x h) (fun x h => z_Asub hD hS hA x h) (fun u t H1 locs ht hvm _ hB hz1 hk1 hS => ?_)
  have hS0 := hS
  obtain ⟨q, cA, hq0, hP2, hCl, hD2⟩ := hB
  rw [ht] at hP2
  have hS := hS0
  have hP := hP2
  have hD := hD2.weaken (fun _ _ _ h => z_AsubL hDo hSo _ h)
  refine lv_astore_n hx hb (lv' := [(1, .ref a), (0, .ref b)]) dL_law_7 rfl hl (by decide) rfl (fun ls hl => ?_)
  have hCl0 : ∀ (k t n b : Nat), (z_shC [])[k]? = some (.inl (t, n, b)) → ArrOfT s (cA k) (z_ty t) ∧ va_RA s (cA k) (z_ty t) := fun k t2 n b h => ⟨arrOfT_moved hvm.symm (hCl k t2 n b h).1, (hCl k t2 n b h).2.moved hvm.symm⟩
  clear hCl hvm hP2 hD2 hS0 hDo hSo hk1 hz1
  refine va_new (ci := 7) (fs := [.null, .null, .int 0, .null, .null, .null, .int 0, .null, .null, .int 0, .int 0, .int 0, .int 0, .null, .int 0, .null, .null, .null, .null, .null, .null, .int 0, .null, .null, .null, .null, .null, .null, .null, .null, .int 0]) (C := RX8) (T := TX8) (N := 31) hx hb hg z_inX8 tyX8 tyX8_ok hown (hg _ (z_g 677 (by decide +kernel) rfl)) (hg _ (z_g 678 (by decide +kernel) rfl)) (hg _ (z_g 51 (by decide +kernel) rfl)) hK hP hD hS hA rfl (fun j hj => by rcases (show j = 0 ∨ j = 1 ∨ j = 2 ∨ j = 3 ∨ j = 4 ∨ j = 5 ∨ j = 6 ∨ j = 7 ∨ j = 8 ∨ j = 9 ∨ j = 10 ∨ j = 11 ∨ j = 12 ∨ j = 13 ∨ j = 14 ∨ j = 15 ∨ j = 16 ∨ j = 17 ∨ j = 18 ∨ j = 19 ∨ j = 20 ∨ j = 21 ∨ j = 22 ∨ j = 23 ∨ j = 24 ∨ j = 25 ∨ j = 26 ∨ j = 27 ∨ j = 28 ∨ j = 29 ∨ j = 30 by omega) with rfl | rfl | rfl | rfl | rfl | rfl | rfl | rfl | rfl | rfl | rfl | rfl | rfl | rfl | rfl | rfl | rfl | rfl | rfl | rfl | rfl | rfl | rfl | rfl | rfl | rfl | rfl | rfl | rfl | rfl | rfl <;> rfl) (Nat.le_of_ble_eq_true rfl) (Nat.le_of_ble_eq_true rfl) dL_law_8 (fun a2 H hP hD hS => ?_)
  refine lv_dup hx hb dL_law_11 rfl ?_
  have hPx : va_P D z_cl [(a2, .inr (7, [.null, .null, .int 0, .null, .null, .null, .int 0, .null, .null, .int 0, .int 0, .int 0, .int 0, .null, .int 0, .null, .null, .null, .null, .null, .null, .int 0, .null, .null, .null, .null, .null, .null, .null, .null, .int 0]))] H := fun k p hk => by
    have h0 : k = 0 := by have := (List.getElem?_eq_some_iff.mp hk).1; simpa using this
    subst h0
    cases hk
    refine hP 26 _ ?_
    rw [List.getElem?_append_right (by rw [z_ws_len]; omega), z_ws_len]
    rfl
  have hDx : va_D (fun q : Nat => s.heap.size ≤ q) [(a2, .inr (7, [.null, .null, .int 0, .null, .null, .null, .int 0, .null, .null, .int 0, .int 0, .int 0, .int 0, .null, .int 0, .null, .null, .null, .null, .null, .null, .int 0, .null, .null, .null, .null, .null, .null, .null, .null, .int 0]))] := by
    refine ⟨fun i j p p2 hi hj _ => ?_, fun k p hk => ?_⟩
    · have h0 := (List.getElem?_eq_some_iff.mp hi).1
      have h1 := (List.getElem?_eq_some_iff.mp hj).1
      simp at h0 h1
      omega
    · have h0 : k = 0 := by have := (List.getElem?_eq_some_iff.mp hk).1; simpa using this
      subst h0
      cases hk
      refine hD.2 26 (a2, .inr (7, [.null, .null, .int 0, .null, .null, .null, .int 0, .null, .null, .int 0, .int 0, .int 0, .int 0, .null, .int 0, .null, .null, .null, .null, .null, .null, .int 0, .null, .null, .null, .null, .null, .null, .null, .null, .int 0])) ?_
      rw [List.getElem?_append_right (by rw [z_ws_len]; omega), z_ws_len]
      rfl
  have hSo := hS
  have hDo := hD
  refine va_callv (va_runI (As := []) (rest := [.ref a2]) ⟨hx, hb, hml, hown, hg⟩ (in_X8_init l D a2 H.size) (cwI 0 hg (z_gi (z_g 681 (by decide +kernel) rfl)) rfl rfl rfl (hg _ (z_g 51 (by decide +kernel) rfl)) (hg _ (z_g 679 (by decide +kernel) rfl)) (hg _ (z_g 680 (by decide +kernel) rfl)) rfl (by decide +kernel) ⟨(Nat.le_of_ble_eq_true rfl), (Nat.le_of_ble_eq_true rfl)⟩) ⟨fun a U g mk q => by obtain ⟨r0, r1, rP, rK, rD, rA, rN⟩ := q; exact ⟨r0, r1, rP, va_K.moved (u := U) (U := U.calling g mk a) (Vm.Alike.refl U.vm) rK, rD, va_AO.moved (u := U) (U := U.calling g mk a) (Vm.Alike.refl U.vm) rA, z_nN.same (s := U) (U := U.calling g mk a) rfl rN⟩, fun U hU hW => ⟨rfl, by rw [hU], by rw [hU]; exact hPx, va_K.moved hW.alike hK, hDx.weaken (fun _ _ _ _ => trivial), hAO.moved hW.alike, hN.warm hW⟩⟩ rfl rfl hl.1 rfl (lv_room (Nat.le_of_ble_eq_true rfl)) dL_law_12 ⟨(Nat.le_of_ble_eq_true rfl), (Nat.le_of_ble_eq_true rfl)⟩) hS (fun x _ h => z_AsubL hDx hSo x h) (fun x h => z_AsubL hDx hSo x h) (fun u t H1 locs ht hvm _ hB hz1 hk1 hS => ?_)
  obtain ⟨qM, cM, SM, hqM, hPM, hMR, hDM, hClM⟩ := hB
  rw [ht] at hPM
  obtain ⟨hPJ, hDJ⟩ := lz_join z_ws_len hP hDo hk1 (fun x h => z_AsubL hDx hSo x h) hPM hDM
  have hClM0 : ∀ (k t n b : Nat), z_shM[k]? = some (.inl (t, n, b)) → ArrOfT s (cM k) (z_ty t) ∧ va_RA s (cM k) (z_ty t) := fun k t2 n b h => ⟨arrOfT_moved hvm.symm (hClM k t2 n b h).1, (hClM k t2 n b h).2.moved hvm.symm⟩
  refine lv_astore_n hx hb (lv' := [(2, .ref a2), (1, .ref a), (0, .ref b)]) dL_law_15 rfl hl (by decide) rfl (fun ls hl => ?_)
  refine lv_iconst hx hb (v := nI 0) dL_law_16 zi_0 ?_
  refine lv_istore_n hx hb (lv' := [(3, .int (nI 0)), (2, .ref a2), (1, .ref a), (0, .ref b)]) dL_law_17 rfl hl (by decide) rfl (fun ls hl => ?_)
  refine W.widen (k := 3000) (n := 3000) (Nat.le_of_ble_eq_true rfl) (Nat.le_of_ble_eq_true rfl) ?_
  have C : lz_C p s m c D cA cM b L xs := ⟨hx, hb, hml, hown, hg, ⟨hK.1, hCl0, hN⟩, ⟨hK.1, hClM0, hN⟩, hX, hbl, hL⟩
  subst hq0
  subst hqM
  have hP3 : va_P D z_cl (lz_wc cA cM q qM z_S0 SM) H1 := hPJ
  have hD3 : va_D (fun x => s.heap.size ≤ x) (lz_wc cA cM q qM z_S0 SM) := hDJ
  have h513 : L < 0 + 6 * 513 := Nat.lt_of_le_of_lt hL (by decide)
  have W3 : lz_W p l e s m below meth c D cA cM q qM b Q 3000 18 (nI 0) [] z_S0 SM := lz_loop C hend 513 0 z_T0 z_S0 SM 3000 h513 (Nat.zero_le _) (by decide) CR_0 hMR
  exact W3 H1 _ ls hP3 hD3 hS hl
