def z_li (l : List Nat) : Nat → Nat := fun k => l.getD k 0
def z_lc (c : ClassId) (l : List ClassId) : Nat → ClassId := fun k => l.getD k c
/-- what the class holds at first -/
def z_S0 : ZS := (fun k => match k with
  | 0 => fun j => match j with
    | 5 => 30
    | 6 => 3
    | 7 => 8
    | _ => 0
  | 1 => fun j => match j with
    | 2 => -1
    | _ => 0
  | 7 => fun j => match j with
    | 2 => -1
    | _ => 0
  | 18 => fun j => match j with
    | 2 => -1
    | _ => 0
  | 19 => fun j => match j with
    | 2 => -1
    | _ => 0
  | 20 => fun j => match j with
    | 2 => -1
    | _ => 0
  | 21 => fun j => match j with
    | 2 => -1
    | _ => 0
  | _ => fun _ => 0, fun _ _ => 0)
theorem z_Pq {D : va_G} {cl : List vw_C} {a n : Nat} {cA : ClassId} {f g : Nat → Option Nat} {H : Heap} {o : Nat × va_E} {ws : va_W} (h : ∀ j, j < n → f j = g j) (hP : va_P D cl (o :: (a, .inl (cA, n, .inr (.inr (.inr (.inr f))))) :: ws) H) : va_P D cl (o :: (a, .inl (cA, n, .inr (.inr (.inr (.inr g))))) :: ws) H := fun k q hk => match k, hk with
  | 0, hk => hP 0 q hk
  | 1, hk => by
    cases hk
    exact va_at_q h (hP 1 _ rfl)
  | k + 2, hk => hP (k + 2) q hk
set_option maxHeartbeats 4000000 in
set_option maxRecDepth 100000 in
theorem z_canP {D : va_G} {H : Heap} (a0 a1 a2 a3 a4 a5 a6 a7 a8 a9 a10 a11 a12 a13 a14 a15 a16 a17 a18 a19 a20 a21 a22 a23 a24 a25 : Nat) (k0 k1 k2 k3 k4 k5 k6 k7 k8 k9 k10 k11 k12 k13 k14 k15 k16 : ClassId) (h : va_P D z_cl [(a0, .inr (6, [(.ref a7), (.ref a11), (.ref a13), (.ref a17), .ref a1, (.int 30), (.int 3), (.int 8), (.int 0), (.int 0), (.int 0)])), (a1, .inl (k0, 4, .inr (.inr (.inr (.inr (fun j => some ((z_li [a0, a7, a2, a3, a4, a5, a6, a11, a8, a9, a10, a13, a12, a17, a14, a15, a16, a1, a19, a21, a23, a25, a18, a20, a22, a24]) (18 + j)))))))), (a2, .inl (k1, (35, .inl (fun _ => 0)))), (a3, .inl (k2, (9, .inl (fun _ => 0)))), (a4, .inl (k3, (9, .inl (fun _ => 0)))), (a5, .inl (k4, (9, .inl (fun _ => 0)))), (a6, .inl (k5, (9, .inl (fun _ => 0)))), (a7, .inr (0, [.ref a2, .int 0, .int (-1), .int 0, .ref a3, .ref a4, .ref a5, .ref a6])), (a8, .inl (k6, (23, .inl (fun _ => 0)))), (a9, .inl (k7, (6, .inl (fun _ => 0)))), (a10, .inl (k8, (6, .inl (fun _ => 0)))), (a11, .inr (2, [.ref a8, .int 0, .int (-1), .int 0, .ref a9, .ref a10])), (a12, .inl (k9, (9, .inl (fun _ => 0)))), (a13, .inr (1, [.ref a12, .int 0, .int 0])), (a14, .inl (k10, (8, .inl (fun _ => 0)))), (a15, .inl (k11, (8, .inl (fun _ => 0)))), (a16, .inl (k12, (8, .inl (fun _ => 0)))), (a17, .inr (4, [.ref a14, .ref a15, .ref a16, .int 0])), (a18, .inl (k13, (48, .inl (fun _ => 0)))), (a19, .inr (5, [.ref a18, .int 0, .int (-1)])), (a20, .inl (k14, (48, .inl (fun _ => 0)))), (a21, .inr (5, [.ref a20, .int 0, .int (-1)])), (a22, .inl (k15, (48, .inl (fun _ => 0)))), (a23, .inr (5, [.ref a22, .int 0, .int (-1)])), (a24, .inl (k16, (48, .inl (fun _ => 0)))), (a25, .inr (5, [.ref a24, .int 0, .int (-1)]))] H) : va_P D z_cl (z_ws (z_lc k0 [k0, k0, k1, k2, k3, k4, k5, k0, k6, k7, k8, k0, k9, k0, k10, k11, k12, k0, k0, k0, k0, k0, k13, k14, k15, k16]) (z_li [a0, a7, a2, a3, a4, a5, a6, a11, a8, a9, a10, a13, a12, a17, a14, a15, a16, a1, a19, a21, a23, a25, a18, a20, a22, a24]) z_S0 (z_shC [])) H := by
  intro k p hk
  have hl : k < 26 := by have := (List.getElem?_eq_some_iff.mp hk).1; simpa [z_ws, z_base_len] using this
  rcases (show k = 0 ∨ k = 1 ∨ k = 2 ∨ k = 3 ∨ k = 4 ∨ k = 5 ∨ k = 6 ∨ k = 7 ∨ k = 8 ∨ k = 9 ∨ k = 10 ∨ k = 11 ∨ k = 12 ∨ k = 13 ∨ k = 14 ∨ k = 15 ∨ k = 16 ∨ k = 17 ∨ k = 18 ∨ k = 19 ∨ k = 20 ∨ k = 21 ∨ k = 22 ∨ k = 23 ∨ k = 24 ∨ k = 25 by omega) with rfl | rfl | rfl | rfl | rfl | rfl | rfl | rfl | rfl | rfl | rfl | rfl | rfl | rfl | rfl | rfl | rfl | rfl | rfl | rfl | rfl | rfl | rfl | rfl | rfl | rfl
  · have e := z_at (cA := (z_lc k0 [k0, k0, k1, k2, k3, k4, k5, k0, k6, k7, k8, k0, k9, k0, k10, k11, k12, k0, k0, k0, k0, k0, k13, k14, k15, k16])) (q := (z_li [a0, a7, a2, a3, a4, a5, a6, a11, a8, a9, a10, a13, a12, a17, a14, a15, a16, a1, a19, a21, a23, a25, a18, a20, a22, a24])) (S := z_S0) (ex := []) (k := 0) (show (z_shC [])[0]? = some _ from rfl)
    rw [List.append_nil] at e
    rw [e] at hk
    cases hk
    exact h 0 _ rfl
  · have e := z_at (cA := (z_lc k0 [k0, k0, k1, k2, k3, k4, k5, k0, k6, k7, k8, k0, k9, k0, k10, k11, k12, k0, k0, k0, k0, k0, k13, k14, k15, k16])) (q := (z_li [a0, a7, a2, a3, a4, a5, a6, a11, a8, a9, a10, a13, a12, a17, a14, a15, a16, a1, a19, a21, a23, a25, a18, a20, a22, a24])) (S := z_S0) (ex := []) (k := 1) (show (z_shC [])[1]? = some _ from rfl)
    rw [List.append_nil] at e
    rw [e] at hk
    cases hk
    exact h 7 _ rfl
  · have e := z_at (cA := (z_lc k0 [k0, k0, k1, k2, k3, k4, k5, k0, k6, k7, k8, k0, k9, k0, k10, k11, k12, k0, k0, k0, k0, k0, k13, k14, k15, k16])) (q := (z_li [a0, a7, a2, a3, a4, a5, a6, a11, a8, a9, a10, a13, a12, a17, a14, a15, a16, a1, a19, a21, a23, a25, a18, a20, a22, a24])) (S := z_S0) (ex := []) (k := 2) (show (z_shC [])[2]? = some _ from rfl)
    rw [List.append_nil] at e
    rw [e] at hk
    cases hk
    exact h 2 _ rfl
  · have e := z_at (cA := (z_lc k0 [k0, k0, k1, k2, k3, k4, k5, k0, k6, k7, k8, k0, k9, k0, k10, k11, k12, k0, k0, k0, k0, k0, k13, k14, k15, k16])) (q := (z_li [a0, a7, a2, a3, a4, a5, a6, a11, a8, a9, a10, a13, a12, a17, a14, a15, a16, a1, a19, a21, a23, a25, a18, a20, a22, a24])) (S := z_S0) (ex := []) (k := 3) (show (z_shC [])[3]? = some _ from rfl)
    rw [List.append_nil] at e
    rw [e] at hk
    cases hk
    exact h 3 _ rfl
  · have e := z_at (cA := (z_lc k0 [k0, k0, k1, k2, k3, k4, k5, k0, k6, k7, k8, k0, k9, k0, k10, k11, k12, k0, k0, k0, k0, k0, k13, k14, k15, k16])) (q := (z_li [a0, a7, a2, a3, a4, a5, a6, a11, a8, a9, a10, a13, a12, a17, a14, a15, a16, a1, a19, a21, a23, a25, a18, a20, a22, a24])) (S := z_S0) (ex := []) (k := 4) (show (z_shC [])[4]? = some _ from rfl)
    rw [List.append_nil] at e
    rw [e] at hk
    cases hk
    exact h 4 _ rfl
  · have e := z_at (cA := (z_lc k0 [k0, k0, k1, k2, k3, k4, k5, k0, k6, k7, k8, k0, k9, k0, k10, k11, k12, k0, k0, k0, k0, k0, k13, k14, k15, k16])) (q := (z_li [a0, a7, a2, a3, a4, a5, a6, a11, a8, a9, a10, a13, a12, a17, a14, a15, a16, a1, a19, a21, a23, a25, a18, a20, a22, a24])) (S := z_S0) (ex := []) (k := 5) (show (z_shC [])[5]? = some _ from rfl)
    rw [List.append_nil] at e
    rw [e] at hk
    cases hk
    exact h 5 _ rfl
  · have e := z_at (cA := (z_lc k0 [k0, k0, k1, k2, k3, k4, k5, k0, k6, k7, k8, k0, k9, k0, k10, k11, k12, k0, k0, k0, k0, k0, k13, k14, k15, k16])) (q := (z_li [a0, a7, a2, a3, a4, a5, a6, a11, a8, a9, a10, a13, a12, a17, a14, a15, a16, a1, a19, a21, a23, a25, a18, a20, a22, a24])) (S := z_S0) (ex := []) (k := 6) (show (z_shC [])[6]? = some _ from rfl)
    rw [List.append_nil] at e
    rw [e] at hk
    cases hk
    exact h 6 _ rfl
  · have e := z_at (cA := (z_lc k0 [k0, k0, k1, k2, k3, k4, k5, k0, k6, k7, k8, k0, k9, k0, k10, k11, k12, k0, k0, k0, k0, k0, k13, k14, k15, k16])) (q := (z_li [a0, a7, a2, a3, a4, a5, a6, a11, a8, a9, a10, a13, a12, a17, a14, a15, a16, a1, a19, a21, a23, a25, a18, a20, a22, a24])) (S := z_S0) (ex := []) (k := 7) (show (z_shC [])[7]? = some _ from rfl)
    rw [List.append_nil] at e
    rw [e] at hk
    cases hk
    exact h 11 _ rfl
  · have e := z_at (cA := (z_lc k0 [k0, k0, k1, k2, k3, k4, k5, k0, k6, k7, k8, k0, k9, k0, k10, k11, k12, k0, k0, k0, k0, k0, k13, k14, k15, k16])) (q := (z_li [a0, a7, a2, a3, a4, a5, a6, a11, a8, a9, a10, a13, a12, a17, a14, a15, a16, a1, a19, a21, a23, a25, a18, a20, a22, a24])) (S := z_S0) (ex := []) (k := 8) (show (z_shC [])[8]? = some _ from rfl)
    rw [List.append_nil] at e
    rw [e] at hk
    cases hk
    exact h 8 _ rfl
  · have e := z_at (cA := (z_lc k0 [k0, k0, k1, k2, k3, k4, k5, k0, k6, k7, k8, k0, k9, k0, k10, k11, k12, k0, k0, k0, k0, k0, k13, k14, k15, k16])) (q := (z_li [a0, a7, a2, a3, a4, a5, a6, a11, a8, a9, a10, a13, a12, a17, a14, a15, a16, a1, a19, a21, a23, a25, a18, a20, a22, a24])) (S := z_S0) (ex := []) (k := 9) (show (z_shC [])[9]? = some _ from rfl)
    rw [List.append_nil] at e
    rw [e] at hk
    cases hk
    exact h 9 _ rfl
  · have e := z_at (cA := (z_lc k0 [k0, k0, k1, k2, k3, k4, k5, k0, k6, k7, k8, k0, k9, k0, k10, k11, k12, k0, k0, k0, k0, k0, k13, k14, k15, k16])) (q := (z_li [a0, a7, a2, a3, a4, a5, a6, a11, a8, a9, a10, a13, a12, a17, a14, a15, a16, a1, a19, a21, a23, a25, a18, a20, a22, a24])) (S := z_S0) (ex := []) (k := 10) (show (z_shC [])[10]? = some _ from rfl)
    rw [List.append_nil] at e
    rw [e] at hk
    cases hk
    exact h 10 _ rfl
  · have e := z_at (cA := (z_lc k0 [k0, k0, k1, k2, k3, k4, k5, k0, k6, k7, k8, k0, k9, k0, k10, k11, k12, k0, k0, k0, k0, k0, k13, k14, k15, k16])) (q := (z_li [a0, a7, a2, a3, a4, a5, a6, a11, a8, a9, a10, a13, a12, a17, a14, a15, a16, a1, a19, a21, a23, a25, a18, a20, a22, a24])) (S := z_S0) (ex := []) (k := 11) (show (z_shC [])[11]? = some _ from rfl)
    rw [List.append_nil] at e
    rw [e] at hk
    cases hk
    exact h 13 _ rfl
  · have e := z_at (cA := (z_lc k0 [k0, k0, k1, k2, k3, k4, k5, k0, k6, k7, k8, k0, k9, k0, k10, k11, k12, k0, k0, k0, k0, k0, k13, k14, k15, k16])) (q := (z_li [a0, a7, a2, a3, a4, a5, a6, a11, a8, a9, a10, a13, a12, a17, a14, a15, a16, a1, a19, a21, a23, a25, a18, a20, a22, a24])) (S := z_S0) (ex := []) (k := 12) (show (z_shC [])[12]? = some _ from rfl)
    rw [List.append_nil] at e
    rw [e] at hk
    cases hk
    exact h 12 _ rfl
  · have e := z_at (cA := (z_lc k0 [k0, k0, k1, k2, k3, k4, k5, k0, k6, k7, k8, k0, k9, k0, k10, k11, k12, k0, k0, k0, k0, k0, k13, k14, k15, k16])) (q := (z_li [a0, a7, a2, a3, a4, a5, a6, a11, a8, a9, a10, a13, a12, a17, a14, a15, a16, a1, a19, a21, a23, a25, a18, a20, a22, a24])) (S := z_S0) (ex := []) (k := 13) (show (z_shC [])[13]? = some _ from rfl)
    rw [List.append_nil] at e
    rw [e] at hk
    cases hk
    exact h 17 _ rfl
  · have e := z_at (cA := (z_lc k0 [k0, k0, k1, k2, k3, k4, k5, k0, k6, k7, k8, k0, k9, k0, k10, k11, k12, k0, k0, k0, k0, k0, k13, k14, k15, k16])) (q := (z_li [a0, a7, a2, a3, a4, a5, a6, a11, a8, a9, a10, a13, a12, a17, a14, a15, a16, a1, a19, a21, a23, a25, a18, a20, a22, a24])) (S := z_S0) (ex := []) (k := 14) (show (z_shC [])[14]? = some _ from rfl)
    rw [List.append_nil] at e
    rw [e] at hk
    cases hk
    exact h 14 _ rfl
  · have e := z_at (cA := (z_lc k0 [k0, k0, k1, k2, k3, k4, k5, k0, k6, k7, k8, k0, k9, k0, k10, k11, k12, k0, k0, k0, k0, k0, k13, k14, k15, k16])) (q := (z_li [a0, a7, a2, a3, a4, a5, a6, a11, a8, a9, a10, a13, a12, a17, a14, a15, a16, a1, a19, a21, a23, a25, a18, a20, a22, a24])) (S := z_S0) (ex := []) (k := 15) (show (z_shC [])[15]? = some _ from rfl)
    rw [List.append_nil] at e
    rw [e] at hk
    cases hk
    exact h 15 _ rfl
  · have e := z_at (cA := (z_lc k0 [k0, k0, k1, k2, k3, k4, k5, k0, k6, k7, k8, k0, k9, k0, k10, k11, k12, k0, k0, k0, k0, k0, k13, k14, k15, k16])) (q := (z_li [a0, a7, a2, a3, a4, a5, a6, a11, a8, a9, a10, a13, a12, a17, a14, a15, a16, a1, a19, a21, a23, a25, a18, a20, a22, a24])) (S := z_S0) (ex := []) (k := 16) (show (z_shC [])[16]? = some _ from rfl)
    rw [List.append_nil] at e
    rw [e] at hk
    cases hk
    exact h 16 _ rfl
  · have e := z_at (cA := (z_lc k0 [k0, k0, k1, k2, k3, k4, k5, k0, k6, k7, k8, k0, k9, k0, k10, k11, k12, k0, k0, k0, k0, k0, k13, k14, k15, k16])) (q := (z_li [a0, a7, a2, a3, a4, a5, a6, a11, a8, a9, a10, a13, a12, a17, a14, a15, a16, a1, a19, a21, a23, a25, a18, a20, a22, a24])) (S := z_S0) (ex := []) (k := 17) (show (z_shC [])[17]? = some _ from rfl)
    rw [List.append_nil] at e
    rw [e] at hk
    cases hk
    exact h 1 _ rfl
  · have e := z_at (cA := (z_lc k0 [k0, k0, k1, k2, k3, k4, k5, k0, k6, k7, k8, k0, k9, k0, k10, k11, k12, k0, k0, k0, k0, k0, k13, k14, k15, k16])) (q := (z_li [a0, a7, a2, a3, a4, a5, a6, a11, a8, a9, a10, a13, a12, a17, a14, a15, a16, a1, a19, a21, a23, a25, a18, a20, a22, a24])) (S := z_S0) (ex := []) (k := 18) (show (z_shC [])[18]? = some _ from rfl)
    rw [List.append_nil] at e
    rw [e] at hk
    cases hk
    exact h 19 _ rfl
  · have e := z_at (cA := (z_lc k0 [k0, k0, k1, k2, k3, k4, k5, k0, k6, k7, k8, k0, k9, k0, k10, k11, k12, k0, k0, k0, k0, k0, k13, k14, k15, k16])) (q := (z_li [a0, a7, a2, a3, a4, a5, a6, a11, a8, a9, a10, a13, a12, a17, a14, a15, a16, a1, a19, a21, a23, a25, a18, a20, a22, a24])) (S := z_S0) (ex := []) (k := 19) (show (z_shC [])[19]? = some _ from rfl)
    rw [List.append_nil] at e
    rw [e] at hk
    cases hk
    exact h 21 _ rfl
  · have e := z_at (cA := (z_lc k0 [k0, k0, k1, k2, k3, k4, k5, k0, k6, k7, k8, k0, k9, k0, k10, k11, k12, k0, k0, k0, k0, k0, k13, k14, k15, k16])) (q := (z_li [a0, a7, a2, a3, a4, a5, a6, a11, a8, a9, a10, a13, a12, a17, a14, a15, a16, a1, a19, a21, a23, a25, a18, a20, a22, a24])) (S := z_S0) (ex := []) (k := 20) (show (z_shC [])[20]? = some _ from rfl)
    rw [List.append_nil] at e
    rw [e] at hk
    cases hk
    exact h 23 _ rfl
  · have e := z_at (cA := (z_lc k0 [k0, k0, k1, k2, k3, k4, k5, k0, k6, k7, k8, k0, k9, k0, k10, k11, k12, k0, k0, k0, k0, k0, k13, k14, k15, k16])) (q := (z_li [a0, a7, a2, a3, a4, a5, a6, a11, a8, a9, a10, a13, a12, a17, a14, a15, a16, a1, a19, a21, a23, a25, a18, a20, a22, a24])) (S := z_S0) (ex := []) (k := 21) (show (z_shC [])[21]? = some _ from rfl)
    rw [List.append_nil] at e
    rw [e] at hk
    cases hk
    exact h 25 _ rfl
  · have e := z_at (cA := (z_lc k0 [k0, k0, k1, k2, k3, k4, k5, k0, k6, k7, k8, k0, k9, k0, k10, k11, k12, k0, k0, k0, k0, k0, k13, k14, k15, k16])) (q := (z_li [a0, a7, a2, a3, a4, a5, a6, a11, a8, a9, a10, a13, a12, a17, a14, a15, a16, a1, a19, a21, a23, a25, a18, a20, a22, a24])) (S := z_S0) (ex := []) (k := 22) (show (z_shC [])[22]? = some _ from rfl)
    rw [List.append_nil] at e
    rw [e] at hk
    cases hk
    exact h 18 _ rfl
  · have e := z_at (cA := (z_lc k0 [k0, k0, k1, k2, k3, k4, k5, k0, k6, k7, k8, k0, k9, k0, k10, k11, k12, k0, k0, k0, k0, k0, k13, k14, k15, k16])) (q := (z_li [a0, a7, a2, a3, a4, a5, a6, a11, a8, a9, a10, a13, a12, a17, a14, a15, a16, a1, a19, a21, a23, a25, a18, a20, a22, a24])) (S := z_S0) (ex := []) (k := 23) (show (z_shC [])[23]? = some _ from rfl)
    rw [List.append_nil] at e
    rw [e] at hk
    cases hk
    exact h 20 _ rfl
  · have e := z_at (cA := (z_lc k0 [k0, k0, k1, k2, k3, k4, k5, k0, k6, k7, k8, k0, k9, k0, k10, k11, k12, k0, k0, k0, k0, k0, k13, k14, k15, k16])) (q := (z_li [a0, a7, a2, a3, a4, a5, a6, a11, a8, a9, a10, a13, a12, a17, a14, a15, a16, a1, a19, a21, a23, a25, a18, a20, a22, a24])) (S := z_S0) (ex := []) (k := 24) (show (z_shC [])[24]? = some _ from rfl)
    rw [List.append_nil] at e
    rw [e] at hk
    cases hk
    exact h 22 _ rfl
  · have e := z_at (cA := (z_lc k0 [k0, k0, k1, k2, k3, k4, k5, k0, k6, k7, k8, k0, k9, k0, k10, k11, k12, k0, k0, k0, k0, k0, k13, k14, k15, k16])) (q := (z_li [a0, a7, a2, a3, a4, a5, a6, a11, a8, a9, a10, a13, a12, a17, a14, a15, a16, a1, a19, a21, a23, a25, a18, a20, a22, a24])) (S := z_S0) (ex := []) (k := 25) (show (z_shC [])[25]? = some _ from rfl)
    rw [List.append_nil] at e
    rw [e] at hk
    cases hk
    exact h 24 _ rfl
set_option maxHeartbeats 4000000 in
set_option maxRecDepth 100000 in
theorem z_canD {A : Nat → Prop} (a0 a1 a2 a3 a4 a5 a6 a7 a8 a9 a10 a11 a12 a13 a14 a15 a16 a17 a18 a19 a20 a21 a22 a23 a24 a25 : Nat) (k0 k1 k2 k3 k4 k5 k6 k7 k8 k9 k10 k11 k12 k13 k14 k15 k16 : ClassId) (h : va_D A [(a0, .inr (6, [(.ref a7), (.ref a11), (.ref a13), (.ref a17), .ref a1, (.int 30), (.int 3), (.int 8), (.int 0), (.int 0), (.int 0)])), (a1, .inl (k0, 4, .inr (.inr (.inr (.inr (fun j => some ((z_li [a0, a7, a2, a3, a4, a5, a6, a11, a8, a9, a10, a13, a12, a17, a14, a15, a16, a1, a19, a21, a23, a25, a18, a20, a22, a24]) (18 + j)))))))), (a2, .inl (k1, (35, .inl (fun _ => 0)))), (a3, .inl (k2, (9, .inl (fun _ => 0)))), (a4, .inl (k3, (9, .inl (fun _ => 0)))), (a5, .inl (k4, (9, .inl (fun _ => 0)))), (a6, .inl (k5, (9, .inl (fun _ => 0)))), (a7, .inr (0, [.ref a2, .int 0, .int (-1), .int 0, .ref a3, .ref a4, .ref a5, .ref a6])), (a8, .inl (k6, (23, .inl (fun _ => 0)))), (a9, .inl (k7, (6, .inl (fun _ => 0)))), (a10, .inl (k8, (6, .inl (fun _ => 0)))), (a11, .inr (2, [.ref a8, .int 0, .int (-1), .int 0, .ref a9, .ref a10])), (a12, .inl (k9, (9, .inl (fun _ => 0)))), (a13, .inr (1, [.ref a12, .int 0, .int 0])), (a14, .inl (k10, (8, .inl (fun _ => 0)))), (a15, .inl (k11, (8, .inl (fun _ => 0)))), (a16, .inl (k12, (8, .inl (fun _ => 0)))), (a17, .inr (4, [.ref a14, .ref a15, .ref a16, .int 0])), (a18, .inl (k13, (48, .inl (fun _ => 0)))), (a19, .inr (5, [.ref a18, .int 0, .int (-1)])), (a20, .inl (k14, (48, .inl (fun _ => 0)))), (a21, .inr (5, [.ref a20, .int 0, .int (-1)])), (a22, .inl (k15, (48, .inl (fun _ => 0)))), (a23, .inr (5, [.ref a22, .int 0, .int (-1)])), (a24, .inl (k16, (48, .inl (fun _ => 0)))), (a25, .inr (5, [.ref a24, .int 0, .int (-1)]))]) : va_D A (z_ws (z_lc k0 [k0, k0, k1, k2, k3, k4, k5, k0, k6, k7, k8, k0, k9, k0, k10, k11, k12, k0, k0, k0, k0, k0, k13, k14, k15, k16]) (z_li [a0, a7, a2, a3, a4, a5, a6, a11, a8, a9, a10, a13, a12, a17, a14, a15, a16, a1, a19, a21, a23, a25, a18, a20, a22, a24]) z_S0 (z_shC [])) := by
  refine z_Da h (fun k => ([0, 7, 2, 3, 4, 5, 6, 11, 8, 9, 10, 13, 12, 17, 14, 15, 16, 1, 19, 21, 23, 25, 18, 20, 22, 24] : List Nat).getD k 0) (fun k p hk => ?_) (fun i j hi hj => ?_)
  · have hl : k < 26 := by have := (List.getElem?_eq_some_iff.mp hk).1; simpa [z_ws, z_base_len] using this
    rcases (show k = 0 ∨ k = 1 ∨ k = 2 ∨ k = 3 ∨ k = 4 ∨ k = 5 ∨ k = 6 ∨ k = 7 ∨ k = 8 ∨ k = 9 ∨ k = 10 ∨ k = 11 ∨ k = 12 ∨ k = 13 ∨ k = 14 ∨ k = 15 ∨ k = 16 ∨ k = 17 ∨ k = 18 ∨ k = 19 ∨ k = 20 ∨ k = 21 ∨ k = 22 ∨ k = 23 ∨ k = 24 ∨ k = 25 by omega) with rfl | rfl | rfl | rfl | rfl | rfl | rfl | rfl | rfl | rfl | rfl | rfl | rfl | rfl | rfl | rfl | rfl | rfl | rfl | rfl | rfl | rfl | rfl | rfl | rfl | rfl
    · have e := z_at (cA := (z_lc k0 [k0, k0, k1, k2, k3, k4, k5, k0, k6, k7, k8, k0, k9, k0, k10, k11, k12, k0, k0, k0, k0, k0, k13, k14, k15, k16])) (q := (z_li [a0, a7, a2, a3, a4, a5, a6, a11, a8, a9, a10, a13, a12, a17, a14, a15, a16, a1, a19, a21, a23, a25, a18, a20, a22, a24])) (S := z_S0) (ex := []) (k := 0) (show (z_shC [])[0]? = some _ from rfl)
      rw [List.append_nil] at e
      rw [e] at hk
      cases hk
      exact ⟨_, rfl, rfl⟩
    · have e := z_at (cA := (z_lc k0 [k0, k0, k1, k2, k3, k4, k5, k0, k6, k7, k8, k0, k9, k0, k10, k11, k12, k0, k0, k0, k0, k0, k13, k14, k15, k16])) (q := (z_li [a0, a7, a2, a3, a4, a5, a6, a11, a8, a9, a10, a13, a12, a17, a14, a15, a16, a1, a19, a21, a23, a25, a18, a20, a22, a24])) (S := z_S0) (ex := []) (k := 1) (show (z_shC [])[1]? = some _ from rfl)
      rw [List.append_nil] at e
      rw [e] at hk
      cases hk
      exact ⟨_, rfl, rfl⟩
    · have e := z_at (cA := (z_lc k0 [k0, k0, k1, k2, k3, k4, k5, k0, k6, k7, k8, k0, k9, k0, k10, k11, k12, k0, k0, k0, k0, k0, k13, k14, k15, k16])) (q := (z_li [a0, a7, a2, a3, a4, a5, a6, a11, a8, a9, a10, a13, a12, a17, a14, a15, a16, a1, a19, a21, a23, a25, a18, a20, a22, a24])) (S := z_S0) (ex := []) (k := 2) (show (z_shC [])[2]? = some _ from rfl)
      rw [List.append_nil] at e
      rw [e] at hk
      cases hk
      exact ⟨_, rfl, rfl⟩
    · have e := z_at (cA := (z_lc k0 [k0, k0, k1, k2, k3, k4, k5, k0, k6, k7, k8, k0, k9, k0, k10, k11, k12, k0, k0, k0, k0, k0, k13, k14, k15, k16])) (q := (z_li [a0, a7, a2, a3, a4, a5, a6, a11, a8, a9, a10, a13, a12, a17, a14, a15, a16, a1, a19, a21, a23, a25, a18, a20, a22, a24])) (S := z_S0) (ex := []) (k := 3) (show (z_shC [])[3]? = some _ from rfl)
      rw [List.append_nil] at e
      rw [e] at hk
      cases hk
      exact ⟨_, rfl, rfl⟩
    · have e := z_at (cA := (z_lc k0 [k0, k0, k1, k2, k3, k4, k5, k0, k6, k7, k8, k0, k9, k0, k10, k11, k12, k0, k0, k0, k0, k0, k13, k14, k15, k16])) (q := (z_li [a0, a7, a2, a3, a4, a5, a6, a11, a8, a9, a10, a13, a12, a17, a14, a15, a16, a1, a19, a21, a23, a25, a18, a20, a22, a24])) (S := z_S0) (ex := []) (k := 4) (show (z_shC [])[4]? = some _ from rfl)
      rw [List.append_nil] at e
      rw [e] at hk
      cases hk
      exact ⟨_, rfl, rfl⟩
    · have e := z_at (cA := (z_lc k0 [k0, k0, k1, k2, k3, k4, k5, k0, k6, k7, k8, k0, k9, k0, k10, k11, k12, k0, k0, k0, k0, k0, k13, k14, k15, k16])) (q := (z_li [a0, a7, a2, a3, a4, a5, a6, a11, a8, a9, a10, a13, a12, a17, a14, a15, a16, a1, a19, a21, a23, a25, a18, a20, a22, a24])) (S := z_S0) (ex := []) (k := 5) (show (z_shC [])[5]? = some _ from rfl)
      rw [List.append_nil] at e
      rw [e] at hk
      cases hk
      exact ⟨_, rfl, rfl⟩
    · have e := z_at (cA := (z_lc k0 [k0, k0, k1, k2, k3, k4, k5, k0, k6, k7, k8, k0, k9, k0, k10, k11, k12, k0, k0, k0, k0, k0, k13, k14, k15, k16])) (q := (z_li [a0, a7, a2, a3, a4, a5, a6, a11, a8, a9, a10, a13, a12, a17, a14, a15, a16, a1, a19, a21, a23, a25, a18, a20, a22, a24])) (S := z_S0) (ex := []) (k := 6) (show (z_shC [])[6]? = some _ from rfl)
      rw [List.append_nil] at e
      rw [e] at hk
      cases hk
      exact ⟨_, rfl, rfl⟩
    · have e := z_at (cA := (z_lc k0 [k0, k0, k1, k2, k3, k4, k5, k0, k6, k7, k8, k0, k9, k0, k10, k11, k12, k0, k0, k0, k0, k0, k13, k14, k15, k16])) (q := (z_li [a0, a7, a2, a3, a4, a5, a6, a11, a8, a9, a10, a13, a12, a17, a14, a15, a16, a1, a19, a21, a23, a25, a18, a20, a22, a24])) (S := z_S0) (ex := []) (k := 7) (show (z_shC [])[7]? = some _ from rfl)
      rw [List.append_nil] at e
      rw [e] at hk
      cases hk
      exact ⟨_, rfl, rfl⟩
    · have e := z_at (cA := (z_lc k0 [k0, k0, k1, k2, k3, k4, k5, k0, k6, k7, k8, k0, k9, k0, k10, k11, k12, k0, k0, k0, k0, k0, k13, k14, k15, k16])) (q := (z_li [a0, a7, a2, a3, a4, a5, a6, a11, a8, a9, a10, a13, a12, a17, a14, a15, a16, a1, a19, a21, a23, a25, a18, a20, a22, a24])) (S := z_S0) (ex := []) (k := 8) (show (z_shC [])[8]? = some _ from rfl)
      rw [List.append_nil] at e
      rw [e] at hk
      cases hk
      exact ⟨_, rfl, rfl⟩
    · have e := z_at (cA := (z_lc k0 [k0, k0, k1, k2, k3, k4, k5, k0, k6, k7, k8, k0, k9, k0, k10, k11, k12, k0, k0, k0, k0, k0, k13, k14, k15, k16])) (q := (z_li [a0, a7, a2, a3, a4, a5, a6, a11, a8, a9, a10, a13, a12, a17, a14, a15, a16, a1, a19, a21, a23, a25, a18, a20, a22, a24])) (S := z_S0) (ex := []) (k := 9) (show (z_shC [])[9]? = some _ from rfl)
      rw [List.append_nil] at e
      rw [e] at hk
      cases hk
      exact ⟨_, rfl, rfl⟩
    · have e := z_at (cA := (z_lc k0 [k0, k0, k1, k2, k3, k4, k5, k0, k6, k7, k8, k0, k9, k0, k10, k11, k12, k0, k0, k0, k0, k0, k13, k14, k15, k16])) (q := (z_li [a0, a7, a2, a3, a4, a5, a6, a11, a8, a9, a10, a13, a12, a17, a14, a15, a16, a1, a19, a21, a23, a25, a18, a20, a22, a24])) (S := z_S0) (ex := []) (k := 10) (show (z_shC [])[10]? = some _ from rfl)
      rw [List.append_nil] at e
      rw [e] at hk
      cases hk
      exact ⟨_, rfl, rfl⟩
    · have e := z_at (cA := (z_lc k0 [k0, k0, k1, k2, k3, k4, k5, k0, k6, k7, k8, k0, k9, k0, k10, k11, k12, k0, k0, k0, k0, k0, k13, k14, k15, k16])) (q := (z_li [a0, a7, a2, a3, a4, a5, a6, a11, a8, a9, a10, a13, a12, a17, a14, a15, a16, a1, a19, a21, a23, a25, a18, a20, a22, a24])) (S := z_S0) (ex := []) (k := 11) (show (z_shC [])[11]? = some _ from rfl)
      rw [List.append_nil] at e
      rw [e] at hk
      cases hk
      exact ⟨_, rfl, rfl⟩
    · have e := z_at (cA := (z_lc k0 [k0, k0, k1, k2, k3, k4, k5, k0, k6, k7, k8, k0, k9, k0, k10, k11, k12, k0, k0, k0, k0, k0, k13, k14, k15, k16])) (q := (z_li [a0, a7, a2, a3, a4, a5, a6, a11, a8, a9, a10, a13, a12, a17, a14, a15, a16, a1, a19, a21, a23, a25, a18, a20, a22, a24])) (S := z_S0) (ex := []) (k := 12) (show (z_shC [])[12]? = some _ from rfl)
      rw [List.append_nil] at e
      rw [e] at hk
      cases hk
      exact ⟨_, rfl, rfl⟩
    · have e := z_at (cA := (z_lc k0 [k0, k0, k1, k2, k3, k4, k5, k0, k6, k7, k8, k0, k9, k0, k10, k11, k12, k0, k0, k0, k0, k0, k13, k14, k15, k16])) (q := (z_li [a0, a7, a2, a3, a4, a5, a6, a11, a8, a9, a10, a13, a12, a17, a14, a15, a16, a1, a19, a21, a23, a25, a18, a20, a22, a24])) (S := z_S0) (ex := []) (k := 13) (show (z_shC [])[13]? = some _ from rfl)
      rw [List.append_nil] at e
      rw [e] at hk
      cases hk
      exact ⟨_, rfl, rfl⟩
    · have e := z_at (cA := (z_lc k0 [k0, k0, k1, k2, k3, k4, k5, k0, k6, k7, k8, k0, k9, k0, k10, k11, k12, k0, k0, k0, k0, k0, k13, k14, k15, k16])) (q := (z_li [a0, a7, a2, a3, a4, a5, a6, a11, a8, a9, a10, a13, a12, a17, a14, a15, a16, a1, a19, a21, a23, a25, a18, a20, a22, a24])) (S := z_S0) (ex := []) (k := 14) (show (z_shC [])[14]? = some _ from rfl)
      rw [List.append_nil] at e
      rw [e] at hk
      cases hk
      exact ⟨_, rfl, rfl⟩
    · have e := z_at (cA := (z_lc k0 [k0, k0, k1, k2, k3, k4, k5, k0, k6, k7, k8, k0, k9, k0, k10, k11, k12, k0, k0, k0, k0, k0, k13, k14, k15, k16])) (q := (z_li [a0, a7, a2, a3, a4, a5, a6, a11, a8, a9, a10, a13, a12, a17, a14, a15, a16, a1, a19, a21, a23, a25, a18, a20, a22, a24])) (S := z_S0) (ex := []) (k := 15) (show (z_shC [])[15]? = some _ from rfl)
      rw [List.append_nil] at e
      rw [e] at hk
      cases hk
      exact ⟨_, rfl, rfl⟩
    · have e := z_at (cA := (z_lc k0 [k0, k0, k1, k2, k3, k4, k5, k0, k6, k7, k8, k0, k9, k0, k10, k11, k12, k0, k0, k0, k0, k0, k13, k14, k15, k16])) (q := (z_li [a0, a7, a2, a3, a4, a5, a6, a11, a8, a9, a10, a13, a12, a17, a14, a15, a16, a1, a19, a21, a23, a25, a18, a20, a22, a24])) (S := z_S0) (ex := []) (k := 16) (show (z_shC [])[16]? = some _ from rfl)
      rw [List.append_nil] at e
      rw [e] at hk
      cases hk
      exact ⟨_, rfl, rfl⟩
    · have e := z_at (cA := (z_lc k0 [k0, k0, k1, k2, k3, k4, k5, k0, k6, k7, k8, k0, k9, k0, k10, k11, k12, k0, k0, k0, k0, k0, k13, k14, k15, k16])) (q := (z_li [a0, a7, a2, a3, a4, a5, a6, a11, a8, a9, a10, a13, a12, a17, a14, a15, a16, a1, a19, a21, a23, a25, a18, a20, a22, a24])) (S := z_S0) (ex := []) (k := 17) (show (z_shC [])[17]? = some _ from rfl)
      rw [List.append_nil] at e
      rw [e] at hk
      cases hk
      exact ⟨_, rfl, rfl⟩
    · have e := z_at (cA := (z_lc k0 [k0, k0, k1, k2, k3, k4, k5, k0, k6, k7, k8, k0, k9, k0, k10, k11, k12, k0, k0, k0, k0, k0, k13, k14, k15, k16])) (q := (z_li [a0, a7, a2, a3, a4, a5, a6, a11, a8, a9, a10, a13, a12, a17, a14, a15, a16, a1, a19, a21, a23, a25, a18, a20, a22, a24])) (S := z_S0) (ex := []) (k := 18) (show (z_shC [])[18]? = some _ from rfl)
      rw [List.append_nil] at e
      rw [e] at hk
      cases hk
      exact ⟨_, rfl, rfl⟩
    · have e := z_at (cA := (z_lc k0 [k0, k0, k1, k2, k3, k4, k5, k0, k6, k7, k8, k0, k9, k0, k10, k11, k12, k0, k0, k0, k0, k0, k13, k14, k15, k16])) (q := (z_li [a0, a7, a2, a3, a4, a5, a6, a11, a8, a9, a10, a13, a12, a17, a14, a15, a16, a1, a19, a21, a23, a25, a18, a20, a22, a24])) (S := z_S0) (ex := []) (k := 19) (show (z_shC [])[19]? = some _ from rfl)
      rw [List.append_nil] at e
      rw [e] at hk
      cases hk
      exact ⟨_, rfl, rfl⟩
    · have e := z_at (cA := (z_lc k0 [k0, k0, k1, k2, k3, k4, k5, k0, k6, k7, k8, k0, k9, k0, k10, k11, k12, k0, k0, k0, k0, k0, k13, k14, k15, k16])) (q := (z_li [a0, a7, a2, a3, a4, a5, a6, a11, a8, a9, a10, a13, a12, a17, a14, a15, a16, a1, a19, a21, a23, a25, a18, a20, a22, a24])) (S := z_S0) (ex := []) (k := 20) (show (z_shC [])[20]? = some _ from rfl)
      rw [List.append_nil] at e
      rw [e] at hk
      cases hk
      exact ⟨_, rfl, rfl⟩
    · have e := z_at (cA := (z_lc k0 [k0, k0, k1, k2, k3, k4, k5, k0, k6, k7, k8, k0, k9, k0, k10, k11, k12, k0, k0, k0, k0, k0, k13, k14, k15, k16])) (q := (z_li [a0, a7, a2, a3, a4, a5, a6, a11, a8, a9, a10, a13, a12, a17, a14, a15, a16, a1, a19, a21, a23, a25, a18, a20, a22, a24])) (S := z_S0) (ex := []) (k := 21) (show (z_shC [])[21]? = some _ from rfl)
      rw [List.append_nil] at e
      rw [e] at hk
      cases hk
      exact ⟨_, rfl, rfl⟩
    · have e := z_at (cA := (z_lc k0 [k0, k0, k1, k2, k3, k4, k5, k0, k6, k7, k8, k0, k9, k0, k10, k11, k12, k0, k0, k0, k0, k0, k13, k14, k15, k16])) (q := (z_li [a0, a7, a2, a3, a4, a5, a6, a11, a8, a9, a10, a13, a12, a17, a14, a15, a16, a1, a19, a21, a23, a25, a18, a20, a22, a24])) (S := z_S0) (ex := []) (k := 22) (show (z_shC [])[22]? = some _ from rfl)
      rw [List.append_nil] at e
      rw [e] at hk
      cases hk
      exact ⟨_, rfl, rfl⟩
    · have e := z_at (cA := (z_lc k0 [k0, k0, k1, k2, k3, k4, k5, k0, k6, k7, k8, k0, k9, k0, k10, k11, k12, k0, k0, k0, k0, k0, k13, k14, k15, k16])) (q := (z_li [a0, a7, a2, a3, a4, a5, a6, a11, a8, a9, a10, a13, a12, a17, a14, a15, a16, a1, a19, a21, a23, a25, a18, a20, a22, a24])) (S := z_S0) (ex := []) (k := 23) (show (z_shC [])[23]? = some _ from rfl)
      rw [List.append_nil] at e
      rw [e] at hk
      cases hk
      exact ⟨_, rfl, rfl⟩
    · have e := z_at (cA := (z_lc k0 [k0, k0, k1, k2, k3, k4, k5, k0, k6, k7, k8, k0, k9, k0, k10, k11, k12, k0, k0, k0, k0, k0, k13, k14, k15, k16])) (q := (z_li [a0, a7, a2, a3, a4, a5, a6, a11, a8, a9, a10, a13, a12, a17, a14, a15, a16, a1, a19, a21, a23, a25, a18, a20, a22, a24])) (S := z_S0) (ex := []) (k := 24) (show (z_shC [])[24]? = some _ from rfl)
      rw [List.append_nil] at e
      rw [e] at hk
      cases hk
      exact ⟨_, rfl, rfl⟩
    · have e := z_at (cA := (z_lc k0 [k0, k0, k1, k2, k3, k4, k5, k0, k6, k7, k8, k0, k9, k0, k10, k11, k12, k0, k0, k0, k0, k0, k13, k14, k15, k16])) (q := (z_li [a0, a7, a2, a3, a4, a5, a6, a11, a8, a9, a10, a13, a12, a17, a14, a15, a16, a1, a19, a21, a23, a25, a18, a20, a22, a24])) (S := z_S0) (ex := []) (k := 25) (show (z_shC [])[25]? = some _ from rfl)
      rw [List.append_nil] at e
      rw [e] at hk
      cases hk
      exact ⟨_, rfl, rfl⟩
  · have hi : i < 26 := by simpa [z_ws, z_base_len] using hi
    have hj : j < 26 := by simpa [z_ws, z_base_len] using hj
    have key : ∀ i, i < 26 → ∀ j, j < 26 → ([0, 7, 2, 3, 4, 5, 6, 11, 8, 9, 10, 13, 12, 17, 14, 15, 16, 1, 19, 21, 23, 25, 18, 20, 22, 24] : List Nat).getD i 0 = ([0, 7, 2, 3, 4, 5, 6, 11, 8, 9, 10, 13, 12, 17, 14, 15, 16, 1, 19, 21, 23, 25, 18, 20, 22, 24] : List Nat).getD j 0 → i = j := by decide +kernel
    exact key i hi j hj
set_option maxHeartbeats 8000000 in
set_option maxRecDepth 100000 in
theorem in_X7_init (l : Launch) (D : va_G) (h0 : Nat) (sz : Nat) : Met l yX7_init (Cond.code yX7_init cX7_init 2 none :: lw_g) ({ frames := 3, cells := 25, slots := 368, locals := 53 } : Room) (va_Pc [.ref h0] (fun U => U.heap.size = sz ∧ va_P D z_cl [(h0, .inr (6, [.null, .null, .null, .null, .null, .int 0, .int 0, .int 0, .int 0, .int 0, .int 0]))] U.heap ∧ va_K D z_cl [] U ∧ va_D (fun _ => True) [(h0, .inr (6, [.null, .null, .null, .null, .null, .int 0, .int 0, .int 0, .int 0, .int 0, .int 0]))] ∧ va_AO "NineBooks$Sheet" U ∧ z_nN U)) (va_Qv (fun _ : Unit => True) (fun _ t => ∃ (q : Nat → Nat) (cA : Nat → ClassId), q 0 = h0 ∧ va_P D z_cl (z_ws cA q z_S0 (z_shC [])) t.heap ∧ (∀ (k t2 n b : Nat), (z_shC [])[k]? = some (.inl (t2, n, b)) → ArrOfT t (cA k) (z_ty t2) ∧ va_RA t (cA k) (z_ty t2)) ∧ va_D (va_A [(h0, .inr (6, [.null, .null, .null, .null, .null, .int 0, .int 0, .int 0, .int 0, .int 0, .int 0]))] sz) (z_ws cA q z_S0 (z_shC []))) (va_A [(h0, .inr (6, [.null, .null, .null, .null, .null, .int 0, .int 0, .int 0, .int 0, .int 0, .int 0]))] sz)) 25 368 (va_A [(h0, .inr (6, [.null, .null, .null, .null, .null, .int 0, .int 0, .int 0, .int 0, .int 0, .int 0]))] sz) := by
  refine Met.ofW (cc := cX7_init) (maxL := 2) (ret := none) (by decide +kernel) rfl ?_
  intro p e s m args below meth c s₁ B hml hv
  obtain ⟨rfl, hsz, hP, hK, hD0, hAO, hN⟩ := hv
  have hx := B.exec
  have hb := B.bytes
  have hr := B.returns
  have hlocks := B.notSynchronized
  have hg : ∀ w ∈ lw_g, w.before _ s = true := fun w hw => atoms_spec (ws := Cond.code yX7_init cX7_init 2 none :: lw_g) B.pre w (List.mem_cons_of_mem _ hw)
  have hown : s.vm.findClass RX7 = some m.cls := findClass_of_methodNamed B.named
  have hin : meth.name = "<init>" := (name_of_methodNamed B.named B.method).1
  subst hsz
  have hK0 := hK
  have hD := hD0.self (sz := s.heap.size)
  generalize hAe : va_A [(h0, .inr (6, [.null, .null, .null, .null, .null, .int 0, .int 0, .int 0, .int 0, .int 0, .int 0]))] s.heap.size = A at hD ⊢
  have hA : ∀ q : Nat, s.heap.size ≤ q → A q := fun q h => by rw [← hAe]; exact Or.inr h
  have hS : va_S A s.heap s.heap [] := va_S.rf
  have hP : va_P D z_cl [(h0, .inr (6, [.null, .null, .null, .null, .null, .int 0, .int 0, .int 0, .int 0, .int 0, .int 0]))] s.heap := hP
  have hl := lv_entry ([.ref h0]) (n := 2) (Nat.le_of_ble_eq_true rfl)
  rw [lg_entry_eq]
  generalize (lg_sl ([.ref h0]) ++ List.replicate (2 - (lg_sl ([.ref h0])).length) Slot.unset).toArray = ls at hl ⊢
  have hl : lv_has ls 2 [(0, .ref h0)] := hl
  refine lv_aload_n hx hb dX7_init_0 rfl (lv_at hl 0 rfl) ?_
  refine W.objInit hx hb hown (hg _ (z_g 61 (by decide +kernel) rfl)) (hg _ (z_g 62 (by decide +kernel) rfl)) (hg _ (z_g 63 (by decide +kernel) rfl)) rfl (by rw [hml]; exact hl.1) rfl dX7_init_1 (Nat.le_of_ble_eq_true rfl) (Nat.le_of_ble_eq_true rfl) ?_
  refine W.eq (g2 := F0 m 4 ls []) rfl ?_
  refine sg_X7_init_4 (cells := 0) (slots := 0) h0 (.null) (.null) (.null) (.null) (.null) (.int 0) (.int 0) (.int 0) (.int 0) (.int 0) (.int 0) [] hx hb hml hg hown hin hK0 hA hAO hN (Nat.le_of_ble_eq_true rfl) (Nat.le_of_ble_eq_true rfl) (Nat.le_of_ble_eq_true rfl) (Nat.le_of_ble_eq_true rfl) hl hS hP hD (fun q5_0_0 q3_9_1_0 q11_9_1_0 q19_9_1_0 q27_9_1_0 q35_9_1_0 c3_9_1_0 c11_9_1_0 c19_9_1_0 c27_9_1_0 c35_9_1_0 H locs hP hD hS hKn0 => ?_)
  have hP : va_P D z_cl ((h0, .inr (6, [.ref q5_0_0, (.null), (.null), (.null), (.null), (.int 0), (.int 0), (.int 0), (.int 0), (.int 0), (.int 0)])) :: (((((([] ++ [(q3_9_1_0, .inl (c3_9_1_0, (35, .inl (fun _ => 0))))]) ++ [(q11_9_1_0, .inl (c11_9_1_0, (9, .inl (fun _ => 0))))]) ++ [(q19_9_1_0, .inl (c19_9_1_0, (9, .inl (fun _ => 0))))]) ++ [(q27_9_1_0, .inl (c27_9_1_0, (9, .inl (fun _ => 0))))]) ++ [(q35_9_1_0, .inl (c35_9_1_0, (9, .inl (fun _ => 0))))]) ++ [(q5_0_0, .inr (0, [.ref q3_9_1_0, .int 0, .int (-1), .int 0, .ref q11_9_1_0, .ref q19_9_1_0, .ref q27_9_1_0, .ref q35_9_1_0]))])) H := hP
  have hD : va_D A ((h0, .inr (6, [.ref q5_0_0, (.null), (.null), (.null), (.null), (.int 0), (.int 0), (.int 0), (.int 0), (.int 0), (.int 0)])) :: (((((([] ++ [(q3_9_1_0, .inl (c3_9_1_0, (35, .inl (fun _ => 0))))]) ++ [(q11_9_1_0, .inl (c11_9_1_0, (9, .inl (fun _ => 0))))]) ++ [(q19_9_1_0, .inl (c19_9_1_0, (9, .inl (fun _ => 0))))]) ++ [(q27_9_1_0, .inl (c27_9_1_0, (9, .inl (fun _ => 0))))]) ++ [(q35_9_1_0, .inl (c35_9_1_0, (9, .inl (fun _ => 0))))]) ++ [(q5_0_0, .inr (0, [.ref q3_9_1_0, .int 0, .int (-1), .int 0, .ref q11_9_1_0, .ref q19_9_1_0, .ref q27_9_1_0, .ref q35_9_1_0]))])) := hD
  generalize hw1 : ((((((([] ++ [(q3_9_1_0, .inl (c3_9_1_0, (35, .inl (fun _ => 0))))]) ++ [(q11_9_1_0, .inl (c11_9_1_0, (9, .inl (fun _ => 0))))]) ++ [(q19_9_1_0, .inl (c19_9_1_0, (9, .inl (fun _ => 0))))]) ++ [(q27_9_1_0, .inl (c27_9_1_0, (9, .inl (fun _ => 0))))]) ++ [(q35_9_1_0, .inl (c35_9_1_0, (9, .inl (fun _ => 0))))]) ++ [(q5_0_0, .inr (0, [.ref q3_9_1_0, .int 0, .int (-1), .int 0, .ref q11_9_1_0, .ref q19_9_1_0, .ref q27_9_1_0, .ref q35_9_1_0]))]) : va_W) = ws1 at hP hD
  refine sg_X7_init_15 (cells := 6) (slots := 79) h0 (.ref q5_0_0) ((.null)) ((.null)) ((.null)) ((.null)) ((.int 0)) ((.int 0)) ((.int 0)) ((.int 0)) ((.int 0)) ((.int 0)) ws1 hx hb hml hg hown hin hK0 hA hAO hN (Nat.le_of_ble_eq_true rfl) (Nat.le_of_ble_eq_true rfl) (Nat.le_of_ble_eq_true rfl) (Nat.le_of_ble_eq_true rfl) hl hS hP hD (fun q16_0_1 q3_20_1_1 q11_20_1_1 q19_20_1_1 c3_20_1_1 c11_20_1_1 c19_20_1_1 H locs hP hD hS hKn1 => ?_)
  have hP : va_P D z_cl ((h0, .inr (6, [(.ref q5_0_0), .ref q16_0_1, (.null), (.null), (.null), (.int 0), (.int 0), (.int 0), (.int 0), (.int 0), (.int 0)])) :: ((((ws1 ++ [(q3_20_1_1, .inl (c3_20_1_1, (23, .inl (fun _ => 0))))]) ++ [(q11_20_1_1, .inl (c11_20_1_1, (6, .inl (fun _ => 0))))]) ++ [(q19_20_1_1, .inl (c19_20_1_1, (6, .inl (fun _ => 0))))]) ++ [(q16_0_1, .inr (2, [.ref q3_20_1_1, .int 0, .int (-1), .int 0, .ref q11_20_1_1, .ref q19_20_1_1]))])) H := hP
  have hD : va_D A ((h0, .inr (6, [(.ref q5_0_0), .ref q16_0_1, (.null), (.null), (.null), (.int 0), (.int 0), (.int 0), (.int 0), (.int 0), (.int 0)])) :: ((((ws1 ++ [(q3_20_1_1, .inl (c3_20_1_1, (23, .inl (fun _ => 0))))]) ++ [(q11_20_1_1, .inl (c11_20_1_1, (6, .inl (fun _ => 0))))]) ++ [(q19_20_1_1, .inl (c19_20_1_1, (6, .inl (fun _ => 0))))]) ++ [(q16_0_1, .inr (2, [.ref q3_20_1_1, .int 0, .int (-1), .int 0, .ref q11_20_1_1, .ref q19_20_1_1]))])) := hD
  generalize hw2 : (((((ws1 ++ [(q3_20_1_1, .inl (c3_20_1_1, (23, .inl (fun _ => 0))))]) ++ [(q11_20_1_1, .inl (c11_20_1_1, (6, .inl (fun _ => 0))))]) ++ [(q19_20_1_1, .inl (c19_20_1_1, (6, .inl (fun _ => 0))))]) ++ [(q16_0_1, .inr (2, [.ref q3_20_1_1, .int 0, .int (-1), .int 0, .ref q11_20_1_1, .ref q19_20_1_1]))]) : va_W) = ws2 at hP hD
  refine sg_X7_init_26 (cells := 10) (slots := 120) h0 ((.ref q5_0_0)) (.ref q16_0_1) ((.null)) ((.null)) ((.null)) ((.int 0)) ((.int 0)) ((.int 0)) ((.int 0)) ((.int 0)) ((.int 0)) ws2 hx hb hml hg hown hin hK0 hA hAO hN (Nat.le_of_ble_eq_true rfl) (Nat.le_of_ble_eq_true rfl) (Nat.le_of_ble_eq_true rfl) (Nat.le_of_ble_eq_true rfl) hl hS hP hD (fun q27_0_2 q7_31_1_2 c7_31_1_2 H locs hP hD hS hKn2 => ?_)
  have hP : va_P D z_cl ((h0, .inr (6, [(.ref q5_0_0), (.ref q16_0_1), .ref q27_0_2, (.null), (.null), (.int 0), (.int 0), (.int 0), (.int 0), (.int 0), (.int 0)])) :: ((ws2 ++ [(q7_31_1_2, .inl (c7_31_1_2, (9, .inl (fun _ => 0))))]) ++ [(q27_0_2, .inr (1, [.ref q7_31_1_2, .int 0, .int 0]))])) H := hP
  have hD : va_D A ((h0, .inr (6, [(.ref q5_0_0), (.ref q16_0_1), .ref q27_0_2, (.null), (.null), (.int 0), (.int 0), (.int 0), (.int 0), (.int 0), (.int 0)])) :: ((ws2 ++ [(q7_31_1_2, .inl (c7_31_1_2, (9, .inl (fun _ => 0))))]) ++ [(q27_0_2, .inr (1, [.ref q7_31_1_2, .int 0, .int 0]))])) := hD
  generalize hw3 : (((ws2 ++ [(q7_31_1_2, .inl (c7_31_1_2, (9, .inl (fun _ => 0))))]) ++ [(q27_0_2, .inr (1, [.ref q7_31_1_2, .int 0, .int 0]))]) : va_W) = ws3 at hP hD
  refine sg_X7_init_37 (cells := 12) (slots := 132) h0 ((.ref q5_0_0)) ((.ref q16_0_1)) (.ref q27_0_2) ((.null)) ((.null)) ((.int 0)) ((.int 0)) ((.int 0)) ((.int 0)) ((.int 0)) ((.int 0)) ws3 hx hb hml hg hown hin hK0 hA hAO hN (Nat.le_of_ble_eq_true rfl) (Nat.le_of_ble_eq_true rfl) (Nat.le_of_ble_eq_true rfl) (Nat.le_of_ble_eq_true rfl) hl hS hP hD (fun q38_0_3 q7_42_1_3 q15_42_1_3 q23_42_1_3 c7_42_1_3 c15_42_1_3 c23_42_1_3 H locs hP hD hS hKn3 => ?_)
  have hP : va_P D z_cl ((h0, .inr (6, [(.ref q5_0_0), (.ref q16_0_1), (.ref q27_0_2), .ref q38_0_3, (.null), (.int 0), (.int 0), (.int 0), (.int 0), (.int 0), (.int 0)])) :: ((((ws3 ++ [(q7_42_1_3, .inl (c7_42_1_3, (8, .inl (fun _ => 0))))]) ++ [(q15_42_1_3, .inl (c15_42_1_3, (8, .inl (fun _ => 0))))]) ++ [(q23_42_1_3, .inl (c23_42_1_3, (8, .inl (fun _ => 0))))]) ++ [(q38_0_3, .inr (4, [.ref q7_42_1_3, .ref q15_42_1_3, .ref q23_42_1_3, .int 0]))])) H := hP
  have hD : va_D A ((h0, .inr (6, [(.ref q5_0_0), (.ref q16_0_1), (.ref q27_0_2), .ref q38_0_3, (.null), (.int 0), (.int 0), (.int 0), (.int 0), (.int 0), (.int 0)])) :: ((((ws3 ++ [(q7_42_1_3, .inl (c7_42_1_3, (8, .inl (fun _ => 0))))]) ++ [(q15_42_1_3, .inl (c15_42_1_3, (8, .inl (fun _ => 0))))]) ++ [(q23_42_1_3, .inl (c23_42_1_3, (8, .inl (fun _ => 0))))]) ++ [(q38_0_3, .inr (4, [.ref q7_42_1_3, .ref q15_42_1_3, .ref q23_42_1_3, .int 0]))])) := hD
  generalize hw4 : (((((ws3 ++ [(q7_42_1_3, .inl (c7_42_1_3, (8, .inl (fun _ => 0))))]) ++ [(q15_42_1_3, .inl (c15_42_1_3, (8, .inl (fun _ => 0))))]) ++ [(q23_42_1_3, .inl (c23_42_1_3, (8, .inl (fun _ => 0))))]) ++ [(q38_0_3, .inr (4, [.ref q7_42_1_3, .ref q15_42_1_3, .ref q23_42_1_3, .int 0]))]) : va_W) = ws4 at hP hD
  refine sg_X7_init_48 (cells := 16) (slots := 160) h0 ((.ref q5_0_0)) ((.ref q16_0_1)) ((.ref q27_0_2)) (.ref q38_0_3) ((.null)) ((.int 0)) ((.int 0)) ((.int 0)) ((.int 0)) ((.int 0)) ((.int 0)) ws4 hx hb hml hg hown hin hK0 hA hAO hN (Nat.le_of_ble_eq_true rfl) (Nat.le_of_ble_eq_true rfl) (Nat.le_of_ble_eq_true rfl) (Nat.le_of_ble_eq_true rfl) hl hS hP hD (fun q50_4 c50_4 H locs hP hD hS hKn4 => ?_)
  have hKs : va_K D z_cl [(c50_4, .object "NineBooks$Sheet")] s := hKn4
  have hP : va_P D z_cl ((h0, .inr (6, [(.ref q5_0_0), (.ref q16_0_1), (.ref q27_0_2), (.ref q38_0_3), .ref q50_4, (.int 0), (.int 0), (.int 0), (.int 0), (.int 0), (.int 0)])) :: (q50_4, .inl (c50_4, 4, .inr (.inr (.inr (.inr (fun _ => none)))))) :: ws4) H := hP
  have hD : va_D A ((h0, .inr (6, [(.ref q5_0_0), (.ref q16_0_1), (.ref q27_0_2), (.ref q38_0_3), .ref q50_4, (.int 0), (.int 0), (.int 0), (.int 0), (.int 0), (.int 0)])) :: (q50_4, .inl (c50_4, 4, .inr (.inr (.inr (.inr (fun _ => none)))))) :: ws4) := hD
  refine sg_X7_init_56 (cells := 17) (slots := 164) h0 ((.ref q5_0_0)) ((.ref q16_0_1)) ((.ref q27_0_2)) ((.ref q38_0_3)) ((.int 0)) ((.int 0)) ((.int 0)) ((.int 0)) ((.int 0)) ((.int 0)) ws4 q50_4 c50_4 (fun _ => none) hKs hx hb hml hg hown hin hK0 hA hAO hN (Nat.le_of_ble_eq_true rfl) (Nat.le_of_ble_eq_true rfl) (Nat.le_of_ble_eq_true rfl) (Nat.le_of_ble_eq_true rfl) hl hS hP hD (fun  H locs ls hP hD hS hKn5 hl => ?_)
  have hP : va_P D z_cl ((h0, .inr (6, [(.ref q5_0_0), (.ref q16_0_1), (.ref q27_0_2), (.ref q38_0_3), .ref q50_4, .int 30, .int 3, .int 8, .int 0, .int 0, .int 0])) :: (q50_4, .inl (c50_4, 4, .inr (.inr (.inr (.inr (fun _ => none)))))) :: ws4) H := hP
  have hD : va_D A ((h0, .inr (6, [(.ref q5_0_0), (.ref q16_0_1), (.ref q27_0_2), (.ref q38_0_3), .ref q50_4, .int 30, .int 3, .int 8, .int 0, .int 0, .int 0])) :: (q50_4, .inl (c50_4, 4, .inr (.inr (.inr (.inr (fun _ => none)))))) :: ws4) := hD
  refine sg_X7_init_90 (cells := 17) (slots := 164) h0 ((.ref q5_0_0)) ((.ref q16_0_1)) ((.ref q27_0_2)) ((.ref q38_0_3)) (.int 30) (.int 3) (.int 8) (.int 0) (.int 0) (.int 0) ws4 q50_4 c50_4 (fun _ => none) hKs (0) (by decide) (by unfold vp_in; decide) hx hb hml hg hown hin hK0 hA hAO hN (Nat.le_of_ble_eq_true rfl) (Nat.le_of_ble_eq_true rfl) (Nat.le_of_ble_eq_true rfl) (Nat.le_of_ble_eq_true rfl) hl hS hP hD (fun q104_0_6 q7_108_1_6 c7_108_1_6 H locs ls hP hD hS hKn6 hl => ?_)
  have hP : va_P D z_cl ((h0, .inr (6, [(.ref q5_0_0), (.ref q16_0_1), (.ref q27_0_2), (.ref q38_0_3), .ref q50_4, (.int 30), (.int 3), (.int 8), (.int 0), (.int 0), (.int 0)])) :: (q50_4, .inl (c50_4, 4, .inr (.inr (.inr (.inr (va_up (fun _ => none) (Int32.toNatClampNeg (0)) (some q104_0_6))))))) :: ((ws4 ++ [(q7_108_1_6, .inl (c7_108_1_6, (48, .inl (fun _ => 0))))]) ++ [(q104_0_6, .inr (5, [.ref q7_108_1_6, .int 0, .int (-1)]))])) H := hP
  have hD : va_D A ((h0, .inr (6, [(.ref q5_0_0), (.ref q16_0_1), (.ref q27_0_2), (.ref q38_0_3), .ref q50_4, (.int 30), (.int 3), (.int 8), (.int 0), (.int 0), (.int 0)])) :: (q50_4, .inl (c50_4, 4, .inr (.inr (.inr (.inr (va_up (fun _ => none) (Int32.toNatClampNeg (0)) (some q104_0_6))))))) :: ((ws4 ++ [(q7_108_1_6, .inl (c7_108_1_6, (48, .inl (fun _ => 0))))]) ++ [(q104_0_6, .inr (5, [.ref q7_108_1_6, .int 0, .int (-1)]))])) := hD
  generalize hw5 : (((ws4 ++ [(q7_108_1_6, .inl (c7_108_1_6, (48, .inl (fun _ => 0))))]) ++ [(q104_0_6, .inr (5, [.ref q7_108_1_6, .int 0, .int (-1)]))]) : va_W) = ws5 at hP hD
  refine sg_X7_init_90 (cells := 19) (slots := 215) h0 ((.ref q5_0_0)) ((.ref q16_0_1)) ((.ref q27_0_2)) ((.ref q38_0_3)) ((.int 30)) ((.int 3)) ((.int 8)) ((.int 0)) ((.int 0)) ((.int 0)) ws5 q50_4 c50_4 (va_up (fun _ => none) (Int32.toNatClampNeg (0)) (some q104_0_6)) hKs (0 + 1) (by decide) (by unfold vp_in; decide) hx hb hml hg hown hin hK0 hA hAO hN (Nat.le_of_ble_eq_true rfl) (Nat.le_of_ble_eq_true rfl) (Nat.le_of_ble_eq_true rfl) (Nat.le_of_ble_eq_true rfl) hl hS hP hD (fun q104_0_7 q7_108_1_7 c7_108_1_7 H locs ls hP hD hS hKn7 hl => ?_)
  have hP : va_P D z_cl ((h0, .inr (6, [(.ref q5_0_0), (.ref q16_0_1), (.ref q27_0_2), (.ref q38_0_3), .ref q50_4, (.int 30), (.int 3), (.int 8), (.int 0), (.int 0), (.int 0)])) :: (q50_4, .inl (c50_4, 4, .inr (.inr (.inr (.inr (va_up (va_up (fun _ => none) (Int32.toNatClampNeg (0)) (some q104_0_6)) (Int32.toNatClampNeg (0 + 1)) (some q104_0_7))))))) :: ((ws5 ++ [(q7_108_1_7, .inl (c7_108_1_7, (48, .inl (fun _ => 0))))]) ++ [(q104_0_7, .inr (5, [.ref q7_108_1_7, .int 0, .int (-1)]))])) H := hP
  have hD : va_D A ((h0, .inr (6, [(.ref q5_0_0), (.ref q16_0_1), (.ref q27_0_2), (.ref q38_0_3), .ref q50_4, (.int 30), (.int 3), (.int 8), (.int 0), (.int 0), (.int 0)])) :: (q50_4, .inl (c50_4, 4, .inr (.inr (.inr (.inr (va_up (va_up (fun _ => none) (Int32.toNatClampNeg (0)) (some q104_0_6)) (Int32.toNatClampNeg (0 + 1)) (some q104_0_7))))))) :: ((ws5 ++ [(q7_108_1_7, .inl (c7_108_1_7, (48, .inl (fun _ => 0))))]) ++ [(q104_0_7, .inr (5, [.ref q7_108_1_7, .int 0, .int (-1)]))])) := hD
  generalize hw6 : (((ws5 ++ [(q7_108_1_7, .inl (c7_108_1_7, (48, .inl (fun _ => 0))))]) ++ [(q104_0_7, .inr (5, [.ref q7_108_1_7, .int 0, .int (-1)]))]) : va_W) = ws6 at hP hD
  refine sg_X7_init_90 (cells := 21) (slots := 266) h0 ((.ref q5_0_0)) ((.ref q16_0_1)) ((.ref q27_0_2)) ((.ref q38_0_3)) ((.int 30)) ((.int 3)) ((.int 8)) ((.int 0)) ((.int 0)) ((.int 0)) ws6 q50_4 c50_4 (va_up (va_up (fun _ => none) (Int32.toNatClampNeg (0)) (some q104_0_6)) (Int32.toNatClampNeg (0 + 1)) (some q104_0_7)) hKs (0 + 1 + 1) (by decide) (by unfold vp_in; decide) hx hb hml hg hown hin hK0 hA hAO hN (Nat.le_of_ble_eq_true rfl) (Nat.le_of_ble_eq_true rfl) (Nat.le_of_ble_eq_true rfl) (Nat.le_of_ble_eq_true rfl) hl hS hP hD (fun q104_0_8 q7_108_1_8 c7_108_1_8 H locs ls hP hD hS hKn8 hl => ?_)
  have hP : va_P D z_cl ((h0, .inr (6, [(.ref q5_0_0), (.ref q16_0_1), (.ref q27_0_2), (.ref q38_0_3), .ref q50_4, (.int 30), (.int 3), (.int 8), (.int 0), (.int 0), (.int 0)])) :: (q50_4, .inl (c50_4, 4, .inr (.inr (.inr (.inr (va_up (va_up (va_up (fun _ => none) (Int32.toNatClampNeg (0)) (some q104_0_6)) (Int32.toNatClampNeg (0 + 1)) (some q104_0_7)) (Int32.toNatClampNeg (0 + 1 + 1)) (some q104_0_8))))))) :: ((ws6 ++ [(q7_108_1_8, .inl (c7_108_1_8, (48, .inl (fun _ => 0))))]) ++ [(q104_0_8, .inr (5, [.ref q7_108_1_8, .int 0, .int (-1)]))])) H := hP
  have hD : va_D A ((h0, .inr (6, [(.ref q5_0_0), (.ref q16_0_1), (.ref q27_0_2), (.ref q38_0_3), .ref q50_4, (.int 30), (.int 3), (.int 8), (.int 0), (.int 0), (.int 0)])) :: (q50_4, .inl (c50_4, 4, .inr (.inr (.inr (.inr (va_up (va_up (va_up (fun _ => none) (Int32.toNatClampNeg (0)) (some q104_0_6)) (Int32.toNatClampNeg (0 + 1)) (some q104_0_7)) (Int32.toNatClampNeg (0 + 1 + 1)) (some q104_0_8))))))) :: ((ws6 ++ [(q7_108_1_8, .inl (c7_108_1_8, (48, .inl (fun _ => 0))))]) ++ [(q104_0_8, .inr (5, [.ref q7_108_1_8, .int 0, .int (-1)]))])) := hD
  generalize hw7 : (((ws6 ++ [(q7_108_1_8, .inl (c7_108_1_8, (48, .inl (fun _ => 0))))]) ++ [(q104_0_8, .inr (5, [.ref q7_108_1_8, .int 0, .int (-1)]))]) : va_W) = ws7 at hP hD
  refine sg_X7_init_90 (cells := 23) (slots := 317) h0 ((.ref q5_0_0)) ((.ref q16_0_1)) ((.ref q27_0_2)) ((.ref q38_0_3)) ((.int 30)) ((.int 3)) ((.int 8)) ((.int 0)) ((.int 0)) ((.int 0)) ws7 q50_4 c50_4 (va_up (va_up (va_up (fun _ => none) (Int32.toNatClampNeg (0)) (some q104_0_6)) (Int32.toNatClampNeg (0 + 1)) (some q104_0_7)) (Int32.toNatClampNeg (0 + 1 + 1)) (some q104_0_8)) hKs (0 + 1 + 1 + 1) (by decide) (by unfold vp_in; decide) hx hb hml hg hown hin hK0 hA hAO hN (Nat.le_of_ble_eq_true rfl) (Nat.le_of_ble_eq_true rfl) (Nat.le_of_ble_eq_true rfl) (Nat.le_of_ble_eq_true rfl) hl hS hP hD (fun q104_0_9 q7_108_1_9 c7_108_1_9 H locs ls hP hD hS hKn9 hl => ?_)
  have hP : va_P D z_cl ((h0, .inr (6, [(.ref q5_0_0), (.ref q16_0_1), (.ref q27_0_2), (.ref q38_0_3), .ref q50_4, (.int 30), (.int 3), (.int 8), (.int 0), (.int 0), (.int 0)])) :: (q50_4, .inl (c50_4, 4, .inr (.inr (.inr (.inr (va_up (va_up (va_up (va_up (fun _ => none) (Int32.toNatClampNeg (0)) (some q104_0_6)) (Int32.toNatClampNeg (0 + 1)) (some q104_0_7)) (Int32.toNatClampNeg (0 + 1 + 1)) (some q104_0_8)) (Int32.toNatClampNeg (0 + 1 + 1 + 1)) (some q104_0_9))))))) :: ((ws7 ++ [(q7_108_1_9, .inl (c7_108_1_9, (48, .inl (fun _ => 0))))]) ++ [(q104_0_9, .inr (5, [.ref q7_108_1_9, .int 0, .int (-1)]))])) H := hP
  have hD : va_D A ((h0, .inr (6, [(.ref q5_0_0), (.ref q16_0_1), (.ref q27_0_2), (.ref q38_0_3), .ref q50_4, (.int 30), (.int 3), (.int 8), (.int 0), (.int 0), (.int 0)])) :: (q50_4, .inl (c50_4, 4, .inr (.inr (.inr (.inr (va_up (va_up (va_up (va_up (fun _ => none) (Int32.toNatClampNeg (0)) (some q104_0_6)) (Int32.toNatClampNeg (0 + 1)) (some q104_0_7)) (Int32.toNatClampNeg (0 + 1 + 1)) (some q104_0_8)) (Int32.toNatClampNeg (0 + 1 + 1 + 1)) (some q104_0_9))))))) :: ((ws7 ++ [(q7_108_1_9, .inl (c7_108_1_9, (48, .inl (fun _ => 0))))]) ++ [(q104_0_9, .inr (5, [.ref q7_108_1_9, .int 0, .int (-1)]))])) := hD
  generalize hw8 : (((ws7 ++ [(q7_108_1_9, .inl (c7_108_1_9, (48, .inl (fun _ => 0))))]) ++ [(q104_0_9, .inr (5, [.ref q7_108_1_9, .int 0, .int (-1)]))]) : va_W) = ws8 at hP hD
  refine lv_iload_n hx hb dX7_init_90 rfl (lv_at hl 0 rfl) ?_
  refine lv_aload_n hx hb dX7_init_91 rfl (lv_at hl 1 rfl) ?_
  refine va_get (ci := 6) (C := RX7) (T := TX7) (N := 11) hx hb hg z_inX7 hown hK0 hP 0 rfl rfl 4 (by decide) (hg _ (z_g 172 (by decide +kernel) rfl)) (fun _ h9 => h9) (v := .ref q50_4) rfl dX7_init_92 ?_
  refine va_alen hx hb hKs hP 1 0 rfl rfl (v := 4) rfl dX7_init_95 ?_
  refine lv_icmp_ge hx hb (tgt := 118) dX7_init_96 (by decide) (fun _ => ?_) (fun q => absurd (by decide) q)
  have hP := z_Pq (g := fun j => some ((z_li [h0, q5_0_0, q3_9_1_0, q11_9_1_0, q19_9_1_0, q27_9_1_0, q35_9_1_0, q16_0_1, q3_20_1_1, q11_20_1_1, q19_20_1_1, q27_0_2, q7_31_1_2, q38_0_3, q7_42_1_3, q15_42_1_3, q23_42_1_3, q50_4, q104_0_6, q104_0_7, q104_0_8, q104_0_9, q7_108_1_6, q7_108_1_7, q7_108_1_8, q7_108_1_9]) (18 + j))) (fun j hj => by rcases (show j = 0 ∨ j = 1 ∨ j = 2 ∨ j = 3 by omega) with rfl | rfl | rfl | rfl <;> rfl) hP
  have hD := hD.set (p := 1) (a := q50_4) (e := .inl (c50_4, 4, .inr (.inr (.inr (.inr (fun j => some ((z_li [h0, q5_0_0, q3_9_1_0, q11_9_1_0, q19_9_1_0, q27_9_1_0, q35_9_1_0, q16_0_1, q3_20_1_1, q11_20_1_1, q19_20_1_1, q27_0_2, q7_31_1_2, q38_0_3, q7_42_1_3, q15_42_1_3, q23_42_1_3, q50_4, q104_0_6, q104_0_7, q104_0_8, q104_0_9, q7_108_1_6, q7_108_1_7, q7_108_1_8, q7_108_1_9]) (18 + j)))))))) rfl
  subst hw8
  subst hw7
  subst hw6
  subst hw5
  subst hw4
  subst hw3
  subst hw2
  subst hw1
  simp only [List.cons_append, List.nil_append, List.append_assoc] at hP hD
  have hP := z_canP h0 q50_4 q3_9_1_0 q11_9_1_0 q19_9_1_0 q27_9_1_0 q35_9_1_0 q5_0_0 q3_20_1_1 q11_20_1_1 q19_20_1_1 q16_0_1 q7_31_1_2 q27_0_2 q7_42_1_3 q15_42_1_3 q23_42_1_3 q38_0_3 q7_108_1_6 q104_0_6 q7_108_1_7 q104_0_7 q7_108_1_8 q104_0_8 q7_108_1_9 q104_0_9 c50_4 c3_9_1_0 c11_9_1_0 c19_9_1_0 c27_9_1_0 c35_9_1_0 c3_20_1_1 c11_20_1_1 c19_20_1_1 c7_31_1_2 c7_42_1_3 c15_42_1_3 c23_42_1_3 c7_108_1_6 c7_108_1_7 c7_108_1_8 c7_108_1_9 hP
  have hD := z_canD h0 q50_4 q3_9_1_0 q11_9_1_0 q19_9_1_0 q27_9_1_0 q35_9_1_0 q5_0_0 q3_20_1_1 q11_20_1_1 q19_20_1_1 q16_0_1 q7_31_1_2 q27_0_2 q7_42_1_3 q15_42_1_3 q23_42_1_3 q38_0_3 q7_108_1_6 q104_0_6 q7_108_1_7 q104_0_7 q7_108_1_8 q104_0_8 q7_108_1_9 q104_0_9 c50_4 c3_9_1_0 c11_9_1_0 c19_9_1_0 c27_9_1_0 c35_9_1_0 c3_20_1_1 c11_20_1_1 c19_20_1_1 c7_31_1_2 c7_42_1_3 c15_42_1_3 c23_42_1_3 c7_108_1_6 c7_108_1_7 c7_108_1_8 c7_108_1_9 hD
  have hC : ∀ (k t n b : Nat), (z_shC [])[k]? = some (.inl (t, n, b)) → ArrOfT s ((z_lc c50_4 [c50_4, c50_4, c3_9_1_0, c11_9_1_0, c19_9_1_0, c27_9_1_0, c35_9_1_0, c50_4, c3_20_1_1, c11_20_1_1, c19_20_1_1, c50_4, c7_31_1_2, c50_4, c7_42_1_3, c15_42_1_3, c23_42_1_3, c50_4, c50_4, c50_4, c50_4, c50_4, c7_108_1_6, c7_108_1_7, c7_108_1_8, c7_108_1_9]) k) (z_ty t) ∧ va_RA s ((z_lc c50_4 [c50_4, c50_4, c3_9_1_0, c11_9_1_0, c19_9_1_0, c27_9_1_0, c35_9_1_0, c50_4, c3_20_1_1, c11_20_1_1, c19_20_1_1, c50_4, c7_31_1_2, c50_4, c7_42_1_3, c15_42_1_3, c23_42_1_3, c50_4, c50_4, c50_4, c50_4, c50_4, c7_108_1_6, c7_108_1_7, c7_108_1_8, c7_108_1_9]) k) (z_ty t) := by
    intro k t n b h
    have hk : k < 26 := (List.getElem?_eq_some_iff.mp h).1
    rcases (show k = 0 ∨ k = 1 ∨ k = 2 ∨ k = 3 ∨ k = 4 ∨ k = 5 ∨ k = 6 ∨ k = 7 ∨ k = 8 ∨ k = 9 ∨ k = 10 ∨ k = 11 ∨ k = 12 ∨ k = 13 ∨ k = 14 ∨ k = 15 ∨ k = 16 ∨ k = 17 ∨ k = 18 ∨ k = 19 ∨ k = 20 ∨ k = 21 ∨ k = 22 ∨ k = 23 ∨ k = 24 ∨ k = 25 by omega) with rfl | rfl | rfl | rfl | rfl | rfl | rfl | rfl | rfl | rfl | rfl | rfl | rfl | rfl | rfl | rfl | rfl | rfl | rfl | rfl | rfl | rfl | rfl | rfl | rfl | rfl
    · cases h
    · cases h
    · cases h; exact hKn0.2 0 _ rfl
    · cases h; exact hKn0.2 1 _ rfl
    · cases h; exact hKn0.2 2 _ rfl
    · cases h; exact hKn0.2 3 _ rfl
    · cases h; exact hKn0.2 4 _ rfl
    · cases h
    · cases h; exact hKn1.2 0 _ rfl
    · cases h; exact hKn1.2 1 _ rfl
    · cases h; exact hKn1.2 2 _ rfl
    · cases h
    · cases h; exact hKn2.2 0 _ rfl
    · cases h
    · cases h; exact hKn3.2 0 _ rfl
    · cases h; exact hKn3.2 1 _ rfl
    · cases h; exact hKn3.2 2 _ rfl
    · cases h; exact hKs.2 0 _ rfl
    · cases h
    · cases h
    · cases h
    · cases h
    · cases h; exact hKn6.2 0 _ rfl
    · cases h; exact hKn7.2 0 _ rfl
    · cases h; exact hKn8.2 0 _ rfl
    · cases h; exact hKn9.2 0 _ rfl
  refine W.widen (k := 25) (n := 368) (Nat.le_of_ble_eq_true rfl) (Nat.le_of_ble_eq_true rfl) ?_
  exact W.vret hx hb hr (fun t ht hW => ⟨⟨(), rfl, trivial, (z_li [h0, q5_0_0, q3_9_1_0, q11_9_1_0, q19_9_1_0, q27_9_1_0, q35_9_1_0, q16_0_1, q3_20_1_1, q11_20_1_1, q19_20_1_1, q27_0_2, q7_31_1_2, q38_0_3, q7_42_1_3, q15_42_1_3, q23_42_1_3, q50_4, q104_0_6, q104_0_7, q104_0_8, q104_0_9, q7_108_1_6, q7_108_1_7, q7_108_1_8, q7_108_1_9]), (z_lc c50_4 [c50_4, c50_4, c3_9_1_0, c11_9_1_0, c19_9_1_0, c27_9_1_0, c35_9_1_0, c50_4, c3_20_1_1, c11_20_1_1, c19_20_1_1, c50_4, c7_31_1_2, c50_4, c7_42_1_3, c15_42_1_3, c23_42_1_3, c50_4, c50_4, c50_4, c50_4, c50_4, c7_108_1_6, c7_108_1_7, c7_108_1_8, c7_108_1_9]), rfl, by rw [ht]; exact hP, fun k t2 n b h => ⟨arrOfT_moved hW.alike (hC k t2 n b h).1, (hC k t2 n b h).2.moved hW.alike⟩, hD⟩, hS.F ht⟩) hS.2.2 dX7_init_118
