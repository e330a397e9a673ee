
/-! ===== a world of fixed shape: objects with int fields and fixed references, arrays of fixed length; the state is what ints and longs it holds ===== -/
abbrev z_cl : List vw_C := [(RX0, TX0, 8), (RX1, TX1, 3), (RX3, TX3, 6), (RX4, TX4, 1), (RX5, TX5, 4), (RX6, TX6, 3), (RX7, TX7, 11), (RX8, TX8, 31)]
/-- ints: place, index (field or element); longs: place, element -/
abbrev ZS : Type := (Nat → Nat → Int32) × (Nat → Nat → Int64)
/-- a place: an array (kind 0 int, 1 long, 2 boolean, 3 sheets; length; first place of its elements) or an object (class, fields: an int, or the place it refers to) -/
abbrev ZE : Type := (Nat × Nat × Nat) ⊕ (Nat × List (Option Nat))
abbrev ZK : Type := Nat → Nat → List (Option Value) → List Value → ZS → Prop
abbrev ZW : Type := List Value → ZS → (Option Value → ZS → Prop) → Prop
abbrev ZC : Type := Nat × Nat × Bool × ZW
def z_em (q : Nat → Nat) : Value → Value
  | .ref k => .ref (q k)
  | v => v
theorem z_em_cat (q : Nat → Nat) (v : Value) : (z_em q v).category = v.category := by cases v <;> rfl
def z_ty (t : Nat) : FieldType := match t with
  | 0 => .int
  | 1 => .long
  | 2 => .boolean
  | _ => .object "NineBooks$Sheet"
def z_arr (q : Nat → Nat) (S : ZS) (k t b : Nat) : ((Nat → Int32) ⊕ (Nat → Int64) ⊕ (Nat → UInt32) ⊕ (Nat → UInt64) ⊕ (Nat → Option Nat)) := match t with
  | 0 => .inl (S.1 k)
  | 1 => .inr (.inl (S.2 k))
  | 2 => .inl (S.1 k)
  | _ => .inr (.inr (.inr (.inr (fun j => some (q (b + j))))))
def z_fv (q : Nat → Nat) (S : ZS) (k j : Nat) : Option Nat → Value
  | none => .int (S.1 k j)
  | some p => .ref (q p)
def z_fs (q : Nat → Nat) (S : ZS) (k : Nat) (fs : List (Option Nat)) : List Value := fs.mapIdx (fun j f => z_fv q S k j f)
def z_ce (cA : Nat → ClassId) (q : Nat → Nat) (S : ZS) (k : Nat) : ZE → va_E
  | .inl x => .inl (cA k, x.2.1, z_arr q S k x.1 x.2.2)
  | .inr x => .inr (x.1, z_fs q S k x.2)
def z_ws (cA : Nat → ClassId) (q : Nat → Nat) (S : ZS) (sh : List ZE) : va_W := sh.mapIdx (fun k e => (q k, z_ce cA q S k e))
theorem z_at {cA : Nat → ClassId} {q : Nat → Nat} {S : ZS} {sh : List ZE} {ex : va_W} {k : Nat} {e : ZE} (h : sh[k]? = some e) : (z_ws cA q S sh ++ ex)[k]? = some (q k, z_ce cA q S k e) := by
  have hk : k < sh.length := (List.getElem?_eq_some_iff.mp h).1
  rw [List.getElem?_append_left (by simp [z_ws, hk])]
  simp [z_ws, h]
theorem z_fs_at {q : Nat → Nat} {S : ZS} {k j : Nat} {fs : List (Option Nat)} {f : Option Nat} (h : fs[j]? = some f) : (z_fs q S k fs)[j]? = some (z_fv q S k j f) := by simp [z_fs, h]
theorem z_fs_len {q : Nat → Nat} {S : ZS} {k : Nat} {fs : List (Option Nat)} : (z_fs q S k fs).length = fs.length := by simp [z_fs]
/-- the addresses do not depend on the state -/
theorem z_addr {cA : Nat → ClassId} {q : Nat → Nat} {S S' : ZS} {sh : List ZE} {ex : va_W} {k : Nat} {p : Nat × va_E} (h : (z_ws cA q S sh ++ ex)[k]? = some p) : ∃ p', (z_ws cA q S' sh ++ ex)[k]? = some p' ∧ p'.1 = p.1 := by
  by_cases hk : k < sh.length
  · rw [List.getElem?_append_left (by simp [z_ws, hk])] at h
    rw [List.getElem?_append_left (by simp [z_ws, hk])]
    simp only [z_ws, List.getElem?_mapIdx] at h ⊢
    obtain ⟨e, he⟩ : ∃ e, sh[k]? = some e := ⟨sh[k], by simp [hk]⟩
    rw [he] at h ⊢
    simp only [Option.map_some, Option.some.injEq] at h ⊢
    exact ⟨_, rfl, by rw [← h]⟩
  · rw [List.getElem?_append_right (by simp [z_ws]; omega)] at h
    rw [List.getElem?_append_right (by simp [z_ws]; omega)]
    simp only [z_ws, List.length_mapIdx] at h ⊢
    exact ⟨p, h, rfl⟩
theorem z_D {A : Nat → Prop} {cA : Nat → ClassId} {q : Nat → Nat} {S S' : ZS} {sh : List ZE} {ex : va_W} (h : va_D A (z_ws cA q S sh ++ ex)) : va_D A (z_ws cA q S' sh ++ ex) := by
  refine ⟨fun i j p p' hi hj he => ?_, fun k p hk => ?_⟩
  · obtain ⟨a, ha, ea⟩ := z_addr (S' := S) hi
    obtain ⟨b, hb, eb⟩ := z_addr (S' := S) hj
    exact h.1 i j a b ha hb (by rw [ea, eb, he])
  · obtain ⟨a, ha, ea⟩ := z_addr (S' := S) hk
    rw [← ea]
    exact h.2 k a ha
theorem z_A {cA : Nat → ClassId} {q : Nat → Nat} {S S' : ZS} {sh : List ZE} {ex : va_W} {sz : Nat} : va_A (z_ws cA q S sh ++ ex) sz = va_A (z_ws cA q S' sh ++ ex) sz := by
  have key : ∀ (S S' : ZS) (a : Nat), va_A (z_ws cA q S sh ++ ex) sz a → va_A (z_ws cA q S' sh ++ ex) sz a := by
    intro S S' a h
    rcases h with ⟨k, e, h⟩ | h
    · obtain ⟨p, hp, e1⟩ := z_addr (S' := S') h
      obtain ⟨a', e'⟩ := p
      dsimp only at e1
      subst e1
      exact Or.inl ⟨k, e', hp⟩
    · exact Or.inr h
  funext a
  exact propext ⟨key S S' a, key S' S a⟩
theorem z_ws_set {cA : Nat → ClassId} {q : Nat → Nat} {S S' : ZS} {sh : List ZE} {ex : va_W} {k : Nat} {e : ZE} {c : va_E} (hk : sh[k]? = some e) (he : z_ce cA q S' k e = c) (ho : ∀ a, a ≠ k → ∀ x, z_ce cA q S' a x = z_ce cA q S a x) :
    (z_ws cA q S sh ++ ex).set k (q k, c) = z_ws cA q S' sh ++ ex := by
  have hlt : k < sh.length := (List.getElem?_eq_some_iff.mp hk).1
  rw [List.set_append_left _ _ (by simp [z_ws, hlt])]
  congr 1
  apply List.ext_getElem?
  intro i
  rw [List.getElem?_set]
  by_cases hi : k = i
  · subst hi
    simp [z_ws, hlt, hk, he]
    have := List.getElem?_eq_some_iff.mp hk
    rw [this.2]
    exact he.symm
  · rw [if_neg hi]
    simp only [z_ws, List.getElem?_mapIdx]
    cases sh[i]? with
    | none => rfl
    | some x => simp only [Option.map_some]; rw [ho i (fun h => hi h.symm)]
def z_u {α : Type} (f : Nat → Nat → α) (k j : Nat) (v : α) : Nat → Nat → α := fun a b => if a = k ∧ b = j then v else f a b
theorem z_u_o {α : Type} {f : Nat → Nat → α} {k j a : Nat} {v : α} (h : a ≠ k) : z_u f k j v a = f a := by funext b; simp [z_u, h]
theorem z_u_k {f : Nat → Nat → Int32} {k j : Nat} {v : Int32} : z_u f k j v k = upd (f k) j v := by funext b; simp [z_u, upd]
theorem z_u_kL {f : Nat → Nat → Int64} {k j : Nat} {v : Int64} : z_u f k j v k = vp_updL (f k) j v := by funext b; simp [z_u, vp_updL]
theorem z_u_eq {α : Type} {f : Nat → Nat → α} {k j : Nat} {v : α} : z_u f k j v k j = v := by simp [z_u]
theorem z_u_nk {α : Type} {f : Nat → Nat → α} {k j a b : Nat} {v : α} (h : ¬ a = k) : z_u f k j v a b = f a b := by simp [z_u, h]
theorem z_u_nj {α : Type} {f : Nat → Nat → α} {k j a b : Nat} {v : α} (h : ¬ b = j) : z_u f k j v a b = f a b := by simp [z_u, h]
theorem z_ce_o {cA : Nat → ClassId} {q : Nat → Nat} {S S' : ZS} {a : Nat} (h1 : S'.1 a = S.1 a) (h2 : S'.2 a = S.2 a) (x : ZE) : z_ce cA q S' a x = z_ce cA q S a x := by
  rcases x with ⟨t, n, b⟩ | ⟨ci, fs⟩
  · simp only [z_ce, z_arr, h1, h2]
  · have : z_fs q S' a fs = z_fs q S a fs := by
      unfold z_fs
      congr 1
      funext j f
      cases f <;> simp [z_fv, h1]
    simp only [z_ce, this]
def z_nN (U : State) : Prop := ∀ w ∈ z_nw, va_Nw w U
theorem z_nw_kind {w : Cond} (h : w ∈ z_nw) : (∃ a i x h, w = .methodLinkNest a i x h) ∨ ∃ x, w = .declares x := by
  have h2 : z_isN w = true := (List.mem_filter.mp h).2
  cases w <;> first | exact Or.inl ⟨_, _, _, _, rfl⟩ | exact Or.inr ⟨_, rfl⟩ | exact absurd h2 (by simp [z_isN])
theorem z_nN.warm {s U : State} (hW : s.WarmedH U.vm) (h : z_nN s) : z_nN U := by
  intro w hw
  rcases z_nw_kind hw with ⟨a, i, x, y, rfl⟩ | ⟨x, rfl⟩
  · exact va_Nw.warmM hW (h _ hw)
  · exact va_Nw.warmD hW (h _ hw)
theorem z_nN.same {s U : State} (hv : s.vm = U.vm) (h : z_nN s) : z_nN U := by
  intro w hw
  rcases z_nw_kind hw with ⟨a, i, x, y, rfl⟩ | ⟨x, rfl⟩
  · exact va_Nw.same rfl hv (h _ hw)
  · exact va_Nw.same rfl hv (h _ hw)
/-- what the tables say: classes, array classes, nest words -/
def z_K (D : va_G) (cA : Nat → ClassId) (sh : List ZE) (U : State) : Prop := (∀ (c : Nat) (q : vw_C), z_cl[c]? = some q → u_Kn U q.1 q.2.1 q.2.2 (D.1 c) (D.2 c)) ∧ (∀ (k t n b : Nat), sh[k]? = some (.inl (t, n, b)) → ArrOfT U (cA k) (z_ty t) ∧ va_RA U (cA k) (z_ty t)) ∧ z_nN U
theorem z_K.va {D : va_G} {cA : Nat → ClassId} {sh : List ZE} {U : State} (h : z_K D cA sh U) : va_K D z_cl [] U := ⟨h.1, fun k q hk => by simp at hk⟩
theorem z_K.one {D : va_G} {cA : Nat → ClassId} {sh : List ZE} {U : State} (h : z_K D cA sh U) {k t n b : Nat} (hk : sh[k]? = some (.inl (t, n, b))) : va_K D z_cl [(cA k, z_ty t)] U := by
  refine ⟨h.1, fun i q hi => ?_⟩
  cases i with
  | zero =>
    simp only [List.getElem?_cons_zero, Option.some.injEq] at hi
    subst hi
    exact h.2.1 k t n b hk
  | succ i => simp at hi
theorem z_K.two {D : va_G} {cA : Nat → ClassId} {sh : List ZE} {U : State} (h : z_K D cA sh U) {k t n b k' n' b' : Nat} (hk : sh[k]? = some (.inl (t, n, b))) (hk' : sh[k']? = some (.inl (t, n', b'))) : va_K D z_cl [(cA k, z_ty t), (cA k', z_ty t)] U := by
  refine ⟨h.1, fun i q hi => ?_⟩
  match i with
  | 0 =>
    simp only [List.getElem?_cons_zero, Option.some.injEq] at hi
    subst hi
    exact h.2.1 k t n b hk
  | 1 =>
    simp only [List.getElem?_cons_succ, List.getElem?_cons_zero, Option.some.injEq] at hi
    subst hi
    exact h.2.1 k' t n' b' hk'
  | i + 2 => simp at hi
theorem z_K.warm {D : va_G} {cA : Nat → ClassId} {sh : List ZE} {s U : State} (hW : s.WarmedH U.vm) (h : z_K D cA sh s) : z_K D cA sh U :=
  ⟨fun c q hq => u_Kn_moved hW.alike (h.1 c q hq), fun k t n b hk => ⟨arrOfT_moved hW.alike (h.2.1 k t n b hk).1, (h.2.1 k t n b hk).2.moved hW.alike⟩, h.2.2.warm hW⟩
theorem z_K.same {D : va_G} {cA : Nat → ClassId} {sh : List ZE} {s U : State} (hv : s.vm = U.vm) (h : z_K D cA sh s) : z_K D cA sh U :=
  ⟨fun c q hq => u_Kn_moved (hv ▸ Vm.Alike.refl _) (h.1 c q hq), fun k t n b hk => ⟨arrOfT_moved (hv ▸ Vm.Alike.refl _) (h.2.1 k t n b hk).1, (h.2.1 k t n b hk).2.moved (hv ▸ Vm.Alike.refl _)⟩, h.2.2.same hv⟩
/-! locals by place: what is known of each -/
def z_L (q : Nat → Nat) (ls : Array Slot) (nL : Nat) (L : List (Option Value)) : Prop := ls.size = nL ∧ lv_wf ls ∧ ∀ (i : Nat) (v : Value), L[i]? = some (some v) → ls[i]? = some (.val (z_em q v))
def z_cl1 : Option Value → Option Value
  | some (.long _) => none
  | some (.double _) => none
  | a => a
def z_st : List (Option Value) → Nat → Value → List (Option Value)
  | [], _, _ => []
  | _ :: t, 0, v => some v :: t
  | a :: t, 1, v => z_cl1 a :: z_st t 0 v
  | a :: t, i + 2, v => a :: z_st t (i + 1) v
def z_stL : List (Option Value) → Nat → Value → List (Option Value)
  | [], _, _ => []
  | [_], 0, v => [some v]
  | _ :: _ :: t, 0, v => some v :: none :: t
  | a :: t, 1, v => z_cl1 a :: z_stL t 0 v
  | a :: t, i + 2, v => a :: z_stL t (i + 1) v
theorem z_cl1_some {a : Option Value} {w : Value} (h : z_cl1 a = some w) : a = some w ∧ ¬ w.category = 2 := by
  cases a with
  | none => cases h
  | some v => cases v <;> simp [z_cl1] at h <;> subst h <;> exact ⟨rfl, by simp [Value.category]⟩
theorem z_st_at : ∀ (L : List (Option Value)) (i : Nat) (v : Value) (j : Nat) (w : Value), (z_st L i v)[j]? = some (some w) → (j = i ∧ w = v) ∨ (j ≠ i ∧ L[j]? = some (some w) ∧ ¬ (j + 1 = i ∧ w.category = 2))
  | [], i, v, j, w, h => by simp [z_st] at h
  | a :: t, 0, v, j, w, h => by
    cases j with
    | zero => simp [z_st] at h; exact Or.inl ⟨rfl, h.symm⟩
    | succ j => simp [z_st] at h; exact Or.inr ⟨by omega, by simpa using h, by omega⟩
  | a :: t, 1, v, j, w, h => by
    cases j with
    | zero =>
      simp [z_st] at h
      have := z_cl1_some h
      exact Or.inr ⟨by omega, by simp [this.1], fun x => this.2 x.2⟩
    | succ j =>
      simp [z_st] at h
      rcases z_st_at t 0 v j w h with ⟨e, r⟩ | ⟨n, r, -⟩
      · exact Or.inl ⟨by omega, r⟩
      · exact Or.inr ⟨by omega, by simpa using r, by omega⟩
  | a :: t, i + 2, v, j, w, h => by
    cases j with
    | zero => simp [z_st] at h; exact Or.inr ⟨by omega, by simp [h], by omega⟩
    | succ j =>
      simp [z_st] at h
      rcases z_st_at t (i + 1) v j w h with ⟨e, r⟩ | ⟨n, r, n2⟩
      · exact Or.inl ⟨by omega, r⟩
      · exact Or.inr ⟨by omega, by simpa using r, fun x => n2 ⟨by omega, x.2⟩⟩
theorem z_stL_at : ∀ (L : List (Option Value)) (i : Nat) (v : Value) (j : Nat) (w : Value), (z_stL L i v)[j]? = some (some w) → (j = i ∧ w = v) ∨ (j ≠ i ∧ j ≠ i + 1 ∧ L[j]? = some (some w) ∧ ¬ (j + 1 = i ∧ w.category = 2))
  | [], i, v, j, w, h => by simp [z_stL] at h
  | [a], 0, v, j, w, h => by
    cases j with
    | zero => simp [z_stL] at h; exact Or.inl ⟨rfl, h.symm⟩
    | succ j => simp [z_stL] at h
  | a :: b :: t, 0, v, j, w, h => by
    match j with
    | 0 => simp [z_stL] at h; exact Or.inl ⟨rfl, h.symm⟩
    | 1 => simp [z_stL] at h
    | j + 2 => simp [z_stL] at h; exact Or.inr ⟨by omega, by omega, by simpa using h, by omega⟩
  | a :: t, 1, v, j, w, h => by
    cases j with
    | zero =>
      simp [z_stL] at h
      have := z_cl1_some h
      exact Or.inr ⟨by omega, by omega, by simp [this.1], fun x => this.2 x.2⟩
    | succ j =>
      simp [z_stL] at h
      rcases z_stL_at t 0 v j w h with ⟨e, r⟩ | ⟨n, n1, r, -⟩
      · exact Or.inl ⟨by omega, r⟩
      · exact Or.inr ⟨by omega, by omega, by simpa using r, by omega⟩
  | a :: t, i + 2, v, j, w, h => by
    cases j with
    | zero => simp [z_stL] at h; exact Or.inr ⟨by omega, by omega, by simp [h], by omega⟩
    | succ j =>
      simp [z_stL] at h
      rcases z_stL_at t (i + 1) v j w h with ⟨e, r⟩ | ⟨n, n1, r, n2⟩
      · exact Or.inl ⟨by omega, r⟩
      · exact Or.inr ⟨by omega, by omega, by simpa using r, fun x => n2 ⟨by omega, x.2⟩⟩
def z_prs (q : Nat → Nat) (L : List (Option Value)) : List (Nat × Value) := (List.range L.length).filterMap (fun i => (L[i]?.join).map (fun v => (i, z_em q v)))
theorem z_prs_in {q : Nat → Nat} {L : List (Option Value)} {i : Nat} {v : Value} (h : L[i]? = some (some v)) : (i, z_em q v) ∈ z_prs q L := by
  have hi : i < L.length := (List.getElem?_eq_some_iff.mp h).1
  exact List.mem_filterMap.mpr ⟨i, List.mem_range.mpr hi, by simp [h]⟩
theorem z_L.has {q : Nat → Nat} {ls : Array Slot} {nL : Nat} {L : List (Option Value)} (h : z_L q ls nL L) : lv_has ls nL (z_prs q L) := by
  refine ⟨h.1, h.2.1, fun p hp => ?_⟩
  obtain ⟨i, -, hi⟩ := List.mem_filterMap.mp hp
  cases hL : L[i]? with
  | none => simp [hL] at hi
  | some a =>
    cases a with
    | none => simp [hL] at hi
    | some v =>
      simp [hL] at hi
      subst hi
      exact h.2.2 i v hL
theorem z_L.st {q : Nat → Nat} {ls' : Array Slot} {nL : Nat} {L : List (Option Value)} {i : Nat} {v : Value}
    (h' : lv_has ls' nL ((i, z_em q v) :: (z_prs q L).filter (fun p => !(p.1 == i) && !(p.1 + 1 == i && p.2.category == 2)))) : z_L q ls' nL (z_st L i v) := by
  refine ⟨h'.1, h'.2.1, fun j w hj => ?_⟩
  rcases z_st_at L i v j w hj with ⟨rfl, rfl⟩ | ⟨n, r, n2⟩
  · exact h'.2.2 _ List.mem_cons_self
  · refine h'.2.2 (j, z_em q w) (List.mem_cons_of_mem _ (List.mem_filter.mpr ⟨z_prs_in r, ?_⟩))
    simp only [z_em_cat, Bool.and_eq_true, Bool.not_eq_true', beq_eq_false_iff_ne, ne_eq, Bool.and_eq_false_iff]
    refine ⟨n, ?_⟩
    by_cases x : j + 1 = i
    · exact Or.inr (fun y => n2 ⟨x, y⟩)
    · exact Or.inl x
theorem z_L.stL {q : Nat → Nat} {ls' : Array Slot} {nL : Nat} {L : List (Option Value)} {i : Nat} {v : Value}
    (h' : lv_has ls' nL ((i, z_em q v) :: (z_prs q L).filter (fun p => !(p.1 == i) && (!(p.1 == i + 1) && !(p.1 + 1 == i && p.2.category == 2))))) : z_L q ls' nL (z_stL L i v) := by
  refine ⟨h'.1, h'.2.1, fun j w hj => ?_⟩
  rcases z_stL_at L i v j w hj with ⟨rfl, rfl⟩ | ⟨n, n1, r, n2⟩
  · exact h'.2.2 _ List.mem_cons_self
  · refine h'.2.2 (j, z_em q w) (List.mem_cons_of_mem _ (List.mem_filter.mpr ⟨z_prs_in r, ?_⟩))
    simp only [z_em_cat, Bool.and_eq_true, Bool.not_eq_true', beq_eq_false_iff_ne, ne_eq, Bool.and_eq_false_iff]
    refine ⟨n, n1, ?_⟩
    by_cases x : j + 1 = i
    · exact Or.inr (fun y => n2 ⟨x, y⟩)
    · exact Or.inl x
/-- the locals at a method's entry -/
def z_en : List Value → List (Option Value)
  | [] => []
  | .long x :: t => some (.long x) :: none :: z_en t
  | .double x :: t => some (.double x) :: none :: z_en t
  | v :: t => some v :: z_en t
theorem z_en_at (q : Nat → Nat) : ∀ (as : List Value) (o i : Nat) (w : Value), (z_en as)[i]? = some (some w) → (o + i, z_em q w) ∈ lv_args o (as.map (z_em q))
  | [], o, i, w, h => by simp [z_en] at h
  | v :: t, o, i, w, h => by
    have ih := z_en_at q t
    have h1 : ∀ (hc : ¬ v.category = 2) (he : z_en (v :: t) = some v :: z_en t), (o + i, z_em q w) ∈ lv_args o ((v :: t).map (z_em q)) := by
      intro hc he
      rw [he] at h
      simp only [List.map_cons, lv_args, z_em_cat, if_neg hc]
      cases i with
      | zero => simp at h; subst h; exact List.mem_cons_self
      | succ i =>
        simp at h
        refine List.mem_cons_of_mem _ ?_
        have := ih (o + 1) i w h
        rw [show o + (i + 1) = o + 1 + i by omega]
        exact this
    have h2 : ∀ (hc : v.category = 2) (he : z_en (v :: t) = some v :: none :: z_en t), (o + i, z_em q w) ∈ lv_args o ((v :: t).map (z_em q)) := by
      intro hc he
      rw [he] at h
      simp only [List.map_cons, lv_args, z_em_cat, if_pos hc]
      match i with
      | 0 => simp at h; subst h; exact List.mem_cons_self
      | 1 => simp at h
      | i + 2 =>
        simp at h
        refine List.mem_cons_of_mem _ ?_
        have := ih (o + 2) i w h
        rw [show o + (i + 2) = o + 2 + i by omega]
        exact this
    cases v <;> first | exact h2 rfl rfl | exact h1 (by simp [Value.category]) rfl
def z_ent (nL : Nat) (as : List Value) : List (Option Value) := z_en as ++ List.replicate (nL - (z_en as).length) none
theorem z_ent_at {q : Nat → Nat} {nL : Nat} {as : List Value} {i : Nat} {w : Value} (h : (z_ent nL as)[i]? = some (some w)) : (i, z_em q w) ∈ lv_args 0 (as.map (z_em q)) := by
  unfold z_ent at h
  by_cases hi : i < (z_en as).length
  · rw [List.getElem?_append_left hi] at h
    have := z_en_at q as 0 i w h
    rwa [Nat.zero_add] at this
  · rw [List.getElem?_append_right (by omega), List.getElem?_replicate] at h
    split at h <;> simp at h
theorem z_L.entry {q : Nat → Nat} {nL : Nat} {as : List Value} (h : (lg_sl (as.map (z_em q))).length ≤ nL) : z_L q ((lg_sl (as.map (z_em q)) ++ List.replicate (nL - (lg_sl (as.map (z_em q))).length) Slot.unset).toArray) nL (z_ent nL as) := by
  have h1 := lv_entry (as.map (z_em q)) h
  exact ⟨h1.1, h1.2.1, fun i v hi => h1.2.2 _ (z_ent_at hi)⟩
/-! ===== the evaluator ===== -/
def z_args : Nat → List Value → List Value → (List Value → List Value → Prop) → Prop
  | 0, acc, st, k => k acc st
  | n + 1, acc, v :: st, k => z_args n (v :: acc) st k
  | _ + 1, _, [], _ => False
def z_tab (go : Nat → Prop) (pc : Nat) (x : Int32) : Int → List Int → Prop
  | _, [] => True
  | lo, o :: t => (x.toInt = lo → 0 ≤ (pc : Int) + o ∧ go ((pc : Int) + o).toNat) ∧ z_tab go pc x (lo + 1) t
def z_lks (go : Nat → Prop) (pc : Nat) (x : Int32) (d : Int) : List (Int × Int) → Prop
  | [] => 0 ≤ (pc : Int) + d ∧ go ((pc : Int) + d).toNat
  | p :: t => (x.toInt = p.1 → 0 ≤ (pc : Int) + p.2 ∧ go ((pc : Int) + p.2).toNat) ∧ (¬ x.toInt = p.1 → z_lks go pc x d t)
def z_cat : List Value → Nat
  | [] => 0
  | v :: t => v.category + z_cat t
theorem z_cat_eq : ∀ st : List Value, z_cat st = (st.map fun v => v.category).sum
  | [] => rfl
  | v :: t => by simp [z_cat, z_cat_eq t]
theorem z_cat_em (q : Nat → Nat) (st : List Value) : ((st.map (z_em q)).map fun v => v.category).sum = z_cat st := by
  rw [z_cat_eq, List.map_map]
  congr 1
  apply List.map_congr_left
  intro v _
  exact z_em_cat q v
def z_fld (sh : List ZE) (fl : Nat → Nat → Option Nat) (a i : Nat) (k : Nat → Nat → Option Nat → Prop) : Prop := match sh[a]? with
  | some (.inr x) => match fl x.1 i with
    | some j => match x.2[j]? with
      | some f => k x.1 j f
      | none => False
    | none => False
  | _ => False
def z_ari (sh : List ZE) (t a : Nat) (k : Nat → Nat → Prop) : Prop := match sh[a]? with
  | some (.inl x) => x.1 = t ∧ k x.2.1 x.2.2
  | _ => False
def z_alen (sh : List ZE) (a : Nat) (k : Nat → Prop) : Prop := match sh[a]? with
  | some (.inl x) => k x.2.1
  | _ => False
def z_getk (S : ZS) (a j : Nat) (k : Value → Prop) : Option Nat → Prop
  | none => k (.int (S.1 a j))
  | some p => k (.ref p)
def z_putk (k : Prop) : Option Nat → Prop
  | none => k
  | some _ => False
def z_lv (L : List (Option Value)) (i : Nat) (k : Value → Prop) : Prop := match L[i]? with
  | some (some v) => k v
  | _ => False
def z_isI (k : Int32 → Prop) : Value → Prop
  | .int x => k x
  | _ => False
def z_isJ (k : Int64 → Prop) : Value → Prop
  | .long x => k x
  | _ => False
def z_isR (k : Value → Prop) : Value → Prop
  | .ref a => k (.ref a)
  | .null => k .null
  | _ => False
def z_one {α : Type} (x : Option α) (k : α → Prop) : Prop := match x with
  | some v => k v
  | none => False


def z_pI (st : List Value) (k : Int32 → List Value → Prop) : Prop := match st with
  | .int x :: r => k x r
  | _ => False
def z_pJ (st : List Value) (k : Int64 → List Value → Prop) : Prop := match st with
  | .long x :: r => k x r
  | _ => False
def z_pR (st : List Value) (k : Nat → List Value → Prop) : Prop := match st with
  | .ref x :: r => k x r
  | _ => False
def z_pV (st : List Value) (k : Value → List Value → Prop) : Prop := match st with
  | x :: r => k x r
  | _ => False
/-- a reference, or null -/
def z_nr (T F : Prop) : Value → Prop
  | .ref _ => T
  | .null => F
  | _ => False
def z_br (c : ClassFile.Cond) (x y : Int32) (T F : Prop) : Prop := match c with
  | .eq => (x = y → T) ∧ (¬ x = y → F)
  | .ne => (x = y → F) ∧ (¬ x = y → T)
  | .lt => (x < y → T) ∧ (¬ x < y → F)
  | .ge => (y ≤ x → T) ∧ (¬ y ≤ x → F)
  | .gt => (y < x → T) ∧ (¬ y < x → F)
  | .le => (x ≤ y → T) ∧ (¬ x ≤ y → F)
def z_to (pc : Nat) (off : Int) (k : Nat → Prop) : Prop := 0 ≤ (pc : Int) + off ∧ k ((pc : Int) + off).toNat
/-- the fields that are ints and not final -/
def z_int (ci j : Nat) : Bool := match ci with
  | 0 => j == 1 || (j == 2 || j == 3)
  | 1 => j == 1 || j == 2
  | 2 => j == 1 || (j == 2 || j == 3)
  | 3 => j == 0
  | 4 => j == 3
  | 5 => j == 1 || j == 2
  | 6 => j == 5 || (j == 6 || (j == 7 || (j == 8 || (j == 9 || j == 10))))
  | 7 => j == 2 || (j == 6 || (j == 9 || (j == 10 || (j == 11 || (j == 12 || (j == 14 || (j == 21 || j == 30)))))))
  | _ => false
def z_cls (cs : List (Nat × ZC)) (i : Nat) (stop : Prop) (k : ZC → Prop) : Prop := match cs.lookup i with
  | some c => k c
  | none => stop


def z_inc : List (Int × Int) → Bool
  | [] => true
  | [_] => true
  | a :: b :: t => decide (a.1 < b.1) && z_inc (b :: t)
def z_rt (rt : Option FieldType) (x : Int32) : Prop := match rt with
  | some .int => True
  | some .boolean => x = 0 ∨ x = 1
  | _ => False
def z_rto (rt : Option FieldType) : Prop := match rt with
  | some (.object _) => True
  | _ => False

def z_okl (ins : Instr) (len : Nat) : Bool := match ins with
  | .iconst _ => len == 1
  | .bipush _ => len == 2
  | .sipush _ => len == 3
  | .lconst _ => len == 1
  | .ldc _ => len == 2
  | .ldc_w _ => len == 3
  | .ldc2_w _ => len == 3
  | .iload_n _ => len == 1
  | .iload _ => len == 2
  | .lload_n _ => len == 1
  | .lload _ => len == 2
  | .aload_n _ => len == 1
  | .aload _ => len == 2
  | .istore_n _ => len == 1
  | .istore _ => len == 2
  | .lstore_n _ => len == 1
  | .lstore _ => len == 2
  | .astore_n _ => len == 1
  | .astore _ => len == 2
  | .iinc _ _ => len == 3
  | .iadd => len == 1
  | .isub => len == 1
  | .imul => len == 1
  | .iand => len == 1
  | .ior => len == 1
  | .ixor => len == 1
  | .ishl => len == 1
  | .ishr => len == 1
  | .iushr => len == 1
  | .idiv => len == 1
  | .irem => len == 1
  | .ladd => len == 1
  | .lsub => len == 1
  | .lmul => len == 1
  | .ldiv => len == 1
  | .lrem => len == 1
  | .lcmp => len == 1
  | .i2l => len == 1
  | .i2b => len == 1
  | .i2s => len == 1
  | .dup => len == 1
  | .dup2 => len == 1
  | .aconst_null => len == 1
  | .if_icmp _ _ => len == 3
  | .ifCond _ _ => len == 3
  | .goto _ => len == 3
  | .ifnull _ => len == 3
  | .ifnonnull _ => len == 3
  | .iaload => len == 1
  | .baload => len == 1
  | .laload => len == 1
  | .aaload => len == 1
  | .iastore => len == 1
  | .bastore => len == 1
  | .lastore => len == 1
  | .arraylength => len == 1
  | .getfield _ => len == 3
  | .putfield _ => len == 3
  | .tableswitch _ _ _ _ => true
  | .lookupswitch _ _ => true
  | .ireturn => len == 1
  | .lreturn => len == 1
  | .areturn => len == 1
  | .return_ => len == 1
  | .invokestatic _ => len == 3
  | .invokevirtual _ => len == 3
  | _ => true
def z_do (nL : Nat) (sh : List ZE) (fl : Nat → Nat → Option Nat) (cs : List (Nat × ZC)) (kc : Nat → Option Int32) (kl : Nat → Option Int64) (rt : Option FieldType) (mc : Nat) (ρ : Option Value → ZS → Prop) (stop : Prop) (go : ZK) (ins : Instr) (g pc : Nat) (L : List (Option Value)) (st : List Value) (S : ZS) : Prop := match ins with
  | .iconst n => go g (pc + 1) L (.int (Int32.ofInt n) :: st) S
  | .bipush n => go g (pc + 2) L (.int (Int8.ofInt n).toInt32 :: st) S
  | .sipush n => go g (pc + 3) L (.int (Int16.ofInt n).toInt32 :: st) S
  | .lconst n => go g (pc + 1) L (.long (Int64.ofNat n.val) :: st) S
  | .ldc i => z_one (kc i) (fun v => go g (pc + 2) L (.int v :: st) S)
  | .ldc_w i => z_one (kc i) (fun v => go g (pc + 3) L (.int v :: st) S)
  | .ldc2_w i => z_one (kl i) (fun v => go g (pc + 3) L (.long v :: st) S)
  | .iload_n k => z_lv L k.val (z_isI (fun x => go g (pc + 1) L (.int x :: st) S))
  | .iload i => z_lv L i (z_isI (fun x => go g (pc + 2) L (.int x :: st) S))
  | .lload_n k => z_lv L k.val (z_isJ (fun x => go g (pc + 1) L (.long x :: st) S))
  | .lload i => z_lv L i (z_isJ (fun x => go g (pc + 2) L (.long x :: st) S))
  | .aload_n k => z_lv L k.val (z_isR (fun x => go g (pc + 1) L (x :: st) S))
  | .aload i => z_lv L i (z_isR (fun x => go g (pc + 2) L (x :: st) S))
  | .istore_n k => z_pI st (fun x st => k.val < nL ∧ go g (pc + 1) (z_st L k.val (.int x)) st S)
  | .istore i => z_pI st (fun x st => i < nL ∧ go g (pc + 2) (z_st L i (.int x)) st S)
  | .lstore_n k => z_pJ st (fun x st => k.val + 1 < nL ∧ go g (pc + 1) (z_stL L k.val (.long x)) st S)
  | .lstore i => z_pJ st (fun x st => i + 1 < nL ∧ go g (pc + 2) (z_stL L i (.long x)) st S)
  | .astore_n k => z_pV st (fun v st => z_isR (fun w => k.val < nL ∧ go g (pc + 1) (z_st L k.val w) st S) v)
  | .astore i => z_pV st (fun v st => z_isR (fun w => i < nL ∧ go g (pc + 2) (z_st L i w) st S) v)
  | .iinc i n => z_lv L i (z_isI (fun x => i < nL ∧ go g (pc + 3) (z_st L i (.int (x + Int32.ofInt n))) st S))
  | .iadd => z_pI st (fun y st => z_pI st (fun x st => go g (pc + 1) L (.int (x + y) :: st) S))
  | .isub => z_pI st (fun y st => z_pI st (fun x st => go g (pc + 1) L (.int (x - y) :: st) S))
  | .imul => z_pI st (fun y st => z_pI st (fun x st => go g (pc + 1) L (.int (x * y) :: st) S))
  | .iand => z_pI st (fun y st => z_pI st (fun x st => go g (pc + 1) L (.int (x &&& y) :: st) S))
  | .ior => z_pI st (fun y st => z_pI st (fun x st => go g (pc + 1) L (.int (x ||| y) :: st) S))
  | .ixor => z_pI st (fun y st => z_pI st (fun x st => go g (pc + 1) L (.int (x ^^^ y) :: st) S))
  | .ishl => z_pI st (fun y st => z_pI st (fun x st => go g (pc + 1) L (.int (x <<< (y &&& 31)) :: st) S))
  | .ishr => z_pI st (fun y st => z_pI st (fun x st => go g (pc + 1) L (.int (x >>> (y &&& 31)) :: st) S))
  | .iushr => z_pI st (fun y st => z_pI st (fun x st => go g (pc + 1) L (.int ((x.toUInt32 >>> (y.toUInt32 &&& Int32.toUInt32 31)).toInt32) :: st) S))
  | .idiv => z_pI st (fun y st => z_pI st (fun x st => ¬ y = 0 ∧ go g (pc + 1) L (.int (x / y) :: st) S))
  | .irem => z_pI st (fun y st => z_pI st (fun x st => ¬ y = 0 ∧ go g (pc + 1) L (.int (x - x / y * y) :: st) S))
  | .ladd => z_pJ st (fun y st => z_pJ st (fun x st => go g (pc + 1) L (.long (x + y) :: st) S))
  | .lsub => z_pJ st (fun y st => z_pJ st (fun x st => go g (pc + 1) L (.long (x - y) :: st) S))
  | .lmul => z_pJ st (fun y st => z_pJ st (fun x st => go g (pc + 1) L (.long (x * y) :: st) S))
  | .ldiv => z_pJ st (fun y st => z_pJ st (fun x st => ¬ y = 0 ∧ go g (pc + 1) L (.long (x / y) :: st) S))
  | .lrem => z_pJ st (fun y st => z_pJ st (fun x st => ¬ y = 0 ∧ go g (pc + 1) L (.long (x - x / y * y) :: st) S))
  | .lcmp => z_pJ st (fun y st => z_pJ st (fun x st => go g (pc + 1) L (.int (lg_cmp x y) :: st) S))
  | .i2l => z_pI st (fun x st => go g (pc + 1) L (.long x.toInt64 :: st) S)
  | .i2b => z_pI st (fun x st => go g (pc + 1) L (.int x.toInt8.toInt32 :: st) S)
  | .i2s => z_pI st (fun x st => go g (pc + 1) L (.int x.toInt16.toInt32 :: st) S)
  | .dup => z_pV st (fun v st => v.category = 1 ∧ go g (pc + 1) L (v :: v :: st) S)
  | .dup2 => z_pV st (fun v st => z_pV st (fun w st => (v.category = 1 ∧ w.category = 1) ∧ go g (pc + 1) L (v :: w :: v :: w :: st) S))
  | .aconst_null => go g (pc + 1) L (.null :: st) S
  | .if_icmp c off => z_pI st (fun y st => z_pI st (fun x st => z_to pc off (fun t => z_br c x y (go g t L st S) (go g (pc + 3) L st S))))
  | .ifCond c off => z_pI st (fun x st => z_to pc off (fun t => z_br c x 0 (go g t L st S) (go g (pc + 3) L st S)))
  | .goto off => z_to pc off (fun t => go g t L st S)
  | .ifnull off => z_pV st (fun v st => z_to pc off (fun t => z_nr (go g (pc + 3) L st S) (go g t L st S) v))
  | .ifnonnull off => z_pV st (fun v st => z_to pc off (fun t => z_nr (go g t L st S) (go g (pc + 3) L st S) v))
  | .iaload => z_pI st (fun i st => z_pR st (fun a st => z_ari sh 0 a (fun n _ => vp_in i n ∧ go g (pc + 1) L (.int (S.1 a i.toNatClampNeg) :: st) S)))
  | .baload => z_pI st (fun i st => z_pR st (fun a st => z_ari sh 2 a (fun n _ => vp_in i n ∧ go g (pc + 1) L (.int (S.1 a i.toNatClampNeg) :: st) S)))
  | .laload => z_pI st (fun i st => z_pR st (fun a st => z_ari sh 1 a (fun n _ => vp_in i n ∧ go g (pc + 1) L (.long (S.2 a i.toNatClampNeg) :: st) S)))
  | .aaload => z_pI st (fun i st => z_pR st (fun a st => z_ari sh 3 a (fun n b => vp_in i n ∧ go g (pc + 1) L (.ref (b + i.toNatClampNeg) :: st) S)))
  | .iastore => z_pI st (fun x st => z_pI st (fun i st => z_pR st (fun a st => z_ari sh 0 a (fun n _ => vp_in i n ∧ go g (pc + 1) L st (z_u S.1 a i.toNatClampNeg x, S.2)))))
  | .bastore => z_pI st (fun x st => z_pI st (fun i st => z_pR st (fun a st => z_ari sh 2 a (fun n _ => vp_in i n ∧ go g (pc + 1) L st (z_u S.1 a i.toNatClampNeg (vp_nar .boolean x), S.2)))))
  | .lastore => z_pJ st (fun x st => z_pI st (fun i st => z_pR st (fun a st => z_ari sh 1 a (fun n _ => vp_in i n ∧ go g (pc + 1) L st (S.1, z_u S.2 a i.toNatClampNeg x)))))
  | .arraylength => z_pR st (fun a st => z_alen sh a (fun n => go g (pc + 1) L (.int (Int32.ofNat n) :: st) S))
  | .getfield i => z_pR st (fun a st => z_fld sh fl a i (fun _ j => z_getk S a j (fun v => go g (pc + 3) L (v :: st) S)))
  | .putfield i => z_pI st (fun v st => z_pR st (fun a st => z_fld sh fl a i (fun ci j f => z_int ci j = true ∧ z_putk (go g (pc + 3) L st (z_u S.1 a j v, S.2)) f)))
  | .tableswitch d lo hi os => z_pI st (fun x st => ((x.toInt < lo ∨ hi < x.toInt) → z_to pc d (fun t => go g t L st S)) ∧ hi = lo + os.toList.length - 1 ∧ z_tab (fun t => go g t L st S) pc x lo os.toList)
  | .lookupswitch d ps => z_pI st (fun x st => z_inc ps.toList = true ∧ z_lks (fun t => go g t L st S) pc x d ps.toList)
  | .ireturn => z_pI st (fun x st => st = [] ∧ z_rt rt x ∧ g ≤ mc ∧ ρ (some (.int x)) S)
  | .lreturn => z_pJ st (fun x st => st = [] ∧ rt = some .long ∧ g ≤ mc ∧ ρ (some (.long x)) S)
  | .areturn => z_pV st (fun v st => st = [] ∧ z_rto rt ∧ g ≤ mc ∧ z_isR (fun w => ρ (some w) S) v)
  | .return_ => st = [] ∧ rt = none ∧ g ≤ mc ∧ ρ none S
  | .invokestatic i => z_cls cs i stop (fun c => c.2.2.1 = true ∧ g + c.2.1 ≤ mc ∧ z_args c.1 [] st (fun as r => z_cat r ≤ 8 ∧ c.2.2.2 as S (fun v S2 => go (g + c.2.1) (pc + 3) L (v.toList ++ r) S2)))
  | .invokevirtual i => z_cls cs i stop (fun c => c.2.2.1 = false ∧ g + c.2.1 ≤ mc ∧ z_args c.1 [] st (fun as r => z_cat r ≤ 8 ∧ c.2.2.2 as S (fun v S2 => go (g + c.2.1) (pc + 3) L (v.toList ++ r) S2)))
  | _ => stop
theorem z_pI_of {st : List Value} {k : Int32 → List Value → Prop} (h : z_pI st k) : ∃ x r, st = .int x :: r ∧ k x r := by
  unfold z_pI at h; split at h
  · exact ⟨_, _, rfl, h⟩
  · exact h.elim
theorem z_pJ_of {st : List Value} {k : Int64 → List Value → Prop} (h : z_pJ st k) : ∃ x r, st = .long x :: r ∧ k x r := by
  unfold z_pJ at h; split at h
  · exact ⟨_, _, rfl, h⟩
  · exact h.elim
theorem z_pR_of {st : List Value} {k : Nat → List Value → Prop} (h : z_pR st k) : ∃ x r, st = .ref x :: r ∧ k x r := by
  unfold z_pR at h; split at h
  · exact ⟨_, _, rfl, h⟩
  · exact h.elim
theorem z_pV_of {st : List Value} {k : Value → List Value → Prop} (h : z_pV st k) : ∃ x r, st = x :: r ∧ k x r := by
  unfold z_pV at h; split at h
  · exact ⟨_, _, rfl, h⟩
  · exact h.elim
theorem z_isI_of {v : Value} {k : Int32 → Prop} (h : z_isI k v) : ∃ x, v = .int x ∧ k x := by
  unfold z_isI at h; split at h
  · exact ⟨_, rfl, h⟩
  · exact h.elim
theorem z_isJ_of {v : Value} {k : Int64 → Prop} (h : z_isJ k v) : ∃ x, v = .long x ∧ k x := by
  unfold z_isJ at h; split at h
  · exact ⟨_, rfl, h⟩
  · exact h.elim
theorem z_isR_of {v : Value} {k : Value → Prop} (h : z_isR k v) : (∃ x, v = .ref x ∧ k (.ref x)) ∨ (v = .null ∧ k .null) := by
  unfold z_isR at h; split at h
  · exact Or.inl ⟨_, rfl, h⟩
  · exact Or.inr ⟨rfl, h⟩
  · exact h.elim
theorem z_nr_of {v : Value} {T F : Prop} (h : z_nr T F v) : (∃ x, v = .ref x ∧ T) ∨ (v = .null ∧ F) := by
  unfold z_nr at h; split at h
  · exact Or.inl ⟨_, rfl, h⟩
  · exact Or.inr ⟨rfl, h⟩
  · exact h.elim
theorem z_lv_of {L : List (Option Value)} {i : Nat} {k : Value → Prop} (h : z_lv L i k) : ∃ v, L[i]? = some (some v) ∧ k v := by
  unfold z_lv at h; split at h
  · rename_i v hv; exact ⟨v, hv, h⟩
  · exact h.elim
theorem z_one_of {α : Type} {x : Option α} {k : α → Prop} (h : z_one x k) : ∃ v, x = some v ∧ k v := by
  unfold z_one at h; split at h
  · exact ⟨_, rfl, h⟩
  · exact h.elim
theorem z_ari_of {sh : List ZE} {t a : Nat} {k : Nat → Nat → Prop} (h : z_ari sh t a k) : ∃ n b, sh[a]? = some (.inl (t, n, b)) ∧ k n b := by
  unfold z_ari at h; split at h
  · rename_i x hx
    obtain ⟨t', n, b⟩ := x
    obtain ⟨rfl, h⟩ := h
    exact ⟨n, b, hx, h⟩
  · exact h.elim
theorem z_alen_of {sh : List ZE} {a : Nat} {k : Nat → Prop} (h : z_alen sh a k) : ∃ t n b, sh[a]? = some (.inl (t, n, b)) ∧ k n := by
  unfold z_alen at h; split at h
  · rename_i x hx
    obtain ⟨t, n, b⟩ := x
    exact ⟨t, n, b, hx, h⟩
  · exact h.elim
theorem z_fld_of {sh : List ZE} {fl : Nat → Nat → Option Nat} {a i : Nat} {k : Nat → Nat → Option Nat → Prop} (h : z_fld sh fl a i k) : ∃ ci fs j f, sh[a]? = some (.inr (ci, fs)) ∧ fl ci i = some j ∧ fs[j]? = some f ∧ k ci j f := by
  unfold z_fld at h
  split at h
  · rename_i x hx
    obtain ⟨ci, fs⟩ := x
    split at h
    · rename_i j hj
      split at h
      · rename_i f hf
        exact ⟨ci, fs, j, f, hx, hj, hf, h⟩
      · exact h.elim
    · exact h.elim
  · exact h.elim
theorem z_cls_of {cs : List (Nat × ZC)} {i : Nat} {stop : Prop} {k : ZC → Prop} (h : z_cls cs i stop k) : (∃ c, cs.lookup i = some c ∧ k c) ∨ stop := by
  unfold z_cls at h
  split at h
  · rename_i c hc; exact Or.inl ⟨c, hc, h⟩
  · exact Or.inr h
theorem z_args_of : ∀ (n : Nat) (acc st : List Value) (k : List Value → List Value → Prop), z_args n acc st k → ∃ as r, as.reverse ++ r = acc.reverse ++ st ∧ as.length = n + acc.length ∧ k as r
  | 0, acc, st, k, h => ⟨acc, st, rfl, by omega, h⟩
  | n + 1, acc, v :: st, k, h => by
    obtain ⟨as, r, h1, h2, h3⟩ := z_args_of n (v :: acc) st k h
    exact ⟨as, r, by simpa using h1, by simp at h2; omega, h3⟩
  | _ + 1, _, [], _, h => h.elim
theorem z_inc_ok : ∀ ps : List (Int × Int), z_inc ps = true → (ps.zip (ps.drop 1)).all (fun (a, next) => a.1 < next.1) = true
  | [], _ => rfl
  | [_], _ => rfl
  | a :: b :: t, h => by
    simp only [z_inc, Bool.and_eq_true] at h
    have ih := z_inc_ok (b :: t) h.2
    simp only [List.drop_succ_cons, List.drop_zero, List.zip_cons_cons, List.all_cons, Bool.and_eq_true] at ih ⊢
    exact ⟨h.1, ih⟩
theorem z_lks_of {go : Nat → Prop} {pc : Nat} {x : Int32} {d : Int} : ∀ ps : List (Int × Int), z_lks go pc x d ps → 0 ≤ (pc : Int) + lookupswitch.offset ps d x.toInt ∧ go ((pc : Int) + lookupswitch.offset ps d x.toInt).toNat
  | [], h => h
  | a :: t, h => by
    obtain ⟨m, o⟩ := a
    rw [lookupswitch.offset_cons]
    by_cases hm : m = x.toInt
    · rw [if_pos hm]; exact h.1 hm.symm
    · rw [if_neg hm]; exact z_lks_of t (h.2 (fun e => hm e.symm))
theorem z_tab_of {go : Nat → Prop} {pc : Nat} {x : Int32} : ∀ (os : List Int) (lo : Int), z_tab go pc x lo os → lo ≤ x.toInt → x.toInt ≤ lo + os.length - 1 → ∃ o, os[(x.toInt - lo).toNat]? = some o ∧ 0 ≤ (pc : Int) + o ∧ go ((pc : Int) + o).toNat
  | [], lo, _, h1, h2 => by simp at h2; omega
  | a :: t, lo, h, h1, h2 => by
    by_cases hx : x.toInt = lo
    · refine ⟨a, by rw [hx]; simp, h.1 hx⟩
    · obtain ⟨o, e1, e2⟩ := z_tab_of t (lo + 1) h.2 (by omega) (by simp at h2; omega)
      refine ⟨o, ?_, e2⟩
      rw [show (x.toInt - lo).toNat = (x.toInt - (lo + 1)).toNat + 1 by omega, List.getElem?_cons_succ]
      exact e1
theorem z_em_nil (q : Nat → Nat) (k : Nat) : z_em q (.ref k) = .ref (q k) := rfl
theorem z_at_i {cA : Nat → ClassId} {q : Nat → Nat} {S : ZS} {sh : List ZE} {ex : va_W} {k n b : Nat} (h : sh[k]? = some (.inl (0, n, b))) : (z_ws cA q S sh ++ ex)[k]? = some (q k, .inl (cA k, n, .inl (S.1 k))) := z_at h
theorem z_at_o {cA : Nat → ClassId} {q : Nat → Nat} {S : ZS} {sh : List ZE} {ex : va_W} {k ci : Nat} {fs : List (Option Nat)} (h : sh[k]? = some (.inr (ci, fs))) : (z_ws cA q S sh ++ ex)[k]? = some (q k, .inr (ci, z_fs q S k fs)) := z_at h
theorem z_at_z {cA : Nat → ClassId} {q : Nat → Nat} {S : ZS} {sh : List ZE} {ex : va_W} {k n b : Nat} (h : sh[k]? = some (.inl (2, n, b))) : (z_ws cA q S sh ++ ex)[k]? = some (q k, .inl (cA k, n, .inl (S.1 k))) := z_at h
theorem z_at_l {cA : Nat → ClassId} {q : Nat → Nat} {S : ZS} {sh : List ZE} {ex : va_W} {k n b : Nat} (h : sh[k]? = some (.inl (1, n, b))) : (z_ws cA q S sh ++ ex)[k]? = some (q k, .inl (cA k, n, .inr (.inl (S.2 k)))) := z_at h
theorem z_at_s {cA : Nat → ClassId} {q : Nat → Nat} {S : ZS} {sh : List ZE} {ex : va_W} {k n b : Nat} (h : sh[k]? = some (.inl (3, n, b))) : (z_ws cA q S sh ++ ex)[k]? = some (q k, .inl (cA k, n, .inr (.inr (.inr (.inr (fun j => some (q (b + j)))))))) := z_at h
theorem z_set_i {cA : Nat → ClassId} {q : Nat → Nat} {S : ZS} {sh : List ZE} {ex : va_W} {k n b j : Nat} {v : Int32} (h : sh[k]? = some (.inl (0, n, b))) : (z_ws cA q S sh ++ ex).set k (q k, .inl (cA k, n, .inl (upd (S.1 k) j v))) = z_ws cA q (z_u S.1 k j v, S.2) sh ++ ex :=
  z_ws_set h (by simp only [z_ce, z_arr, z_u_k]) (fun a ha x => z_ce_o (S := S) (S' := (z_u S.1 k j v, S.2)) (z_u_o ha) rfl x)
theorem z_set_z {cA : Nat → ClassId} {q : Nat → Nat} {S : ZS} {sh : List ZE} {ex : va_W} {k n b j : Nat} {v : Int32} (h : sh[k]? = some (.inl (2, n, b))) : (z_ws cA q S sh ++ ex).set k (q k, .inl (cA k, n, .inl (upd (S.1 k) j v))) = z_ws cA q (z_u S.1 k j v, S.2) sh ++ ex :=
  z_ws_set h (by simp only [z_ce, z_arr, z_u_k]) (fun a ha x => z_ce_o (S := S) (S' := (z_u S.1 k j v, S.2)) (z_u_o ha) rfl x)
theorem z_set_l {cA : Nat → ClassId} {q : Nat → Nat} {S : ZS} {sh : List ZE} {ex : va_W} {k n b j : Nat} {v : Int64} (h : sh[k]? = some (.inl (1, n, b))) : (z_ws cA q S sh ++ ex).set k (q k, .inl (cA k, n, .inr (.inl (vp_updL (S.2 k) j v)))) = z_ws cA q (S.1, z_u S.2 k j v) sh ++ ex :=
  z_ws_set h (by simp only [z_ce, z_arr, z_u_kL]) (fun a ha x => z_ce_o (S := S) (S' := (S.1, z_u S.2 k j v)) rfl (z_u_o ha) x)
theorem z_fs_set {q : Nat → Nat} {S : ZS} {k j : Nat} {fs : List (Option Nat)} {v : Int32} (hf : fs[j]? = some none) : z_fs q (z_u S.1 k j v, S.2) k fs = (z_fs q S k fs).set j (.int v) := by
  have hlt : j < fs.length := (List.getElem?_eq_some_iff.mp hf).1
  apply List.ext_getElem?
  intro i
  rw [List.getElem?_set]
  by_cases hi : j = i
  · subst hi
    rw [if_pos rfl, if_pos (by rw [z_fs_len]; exact hlt), z_fs_at hf]
    simp only [z_fv, z_u_eq]
  · rw [if_neg hi]
    simp only [z_fs, List.getElem?_mapIdx]
    cases fs[i]? with
    | none => rfl
    | some f =>
      cases f with
      | none => simp only [Option.map_some, z_fv]; rw [z_u_nj (fun e => hi e.symm)]
      | some w => rfl
theorem z_set_f {cA : Nat → ClassId} {q : Nat → Nat} {S : ZS} {sh : List ZE} {ex : va_W} {k j ci : Nat} {fs : List (Option Nat)} {v : Int32} (h : sh[k]? = some (.inr (ci, fs))) (hf : fs[j]? = some none) : (z_ws cA q S sh ++ ex).set k (q k, .inr (ci, (z_fs q S k fs).set j (.int v))) = z_ws cA q (z_u S.1 k j v, S.2) sh ++ ex :=
  z_ws_set h (by simp only [z_ce, z_fs_set hf]) (fun a ha x => z_ce_o (S := S) (S' := (z_u S.1 k j v, S.2)) (z_u_o ha) rfl x)
theorem z_rt_of {rt : Option FieldType} {x : Int32} (h : z_rt rt x) : ∃ ty, rt = some ty ∧ narrow ty (.int x) = .int x := by
  unfold z_rt at h
  split at h
  · exact ⟨_, rfl, rfl⟩
  · rcases h with rfl | rfl
    · exact ⟨_, rfl, by decide +kernel⟩
    · exact ⟨_, rfl, by decide +kernel⟩
  · exact h.elim
theorem z_rto_of {rt : Option FieldType} (h : z_rto rt) : ∃ nm, rt = some (.object nm) := by
  unfold z_rto at h
  split at h
  · exact ⟨_, rfl⟩
  · exact h.elim
/-! soundness -/
def z_W (p : Program) (l : Launch) (e : Env) (R : Room) (s : State) (m : MethodId) (args : Array Value) (below : List Frame) (meth : Method) (c : Code) (D : va_G) (cA : Nat → ClassId) (q : Nat → Nat) (A : Nat → Prop) (sh : List ZE) (ex : va_W) (nL : Nat) (Q : State → Prop) : ZK := fun g pc L st S =>
  ∀ (H : Heap) (locs : List Loc) (ls : Array Slot), va_P D z_cl (z_ws cA q S sh ++ ex) H → va_D A (z_ws cA q S sh ++ ex) → va_S A s.heap H locs → z_L q ls nL L → W p l e R s m args below meth c H locs g g Q (F0 m pc ls (st.map (z_em q)))
def z_Cx (p : Program) (s : State) (m : MethodId) (args : Array Value) (meth : Method) (c : Code) (D : va_G) (cA : Nat → ClassId) (A : Nat → Prop) (sh : List ZE) (cc : ByteArray) (own : String) (nL : Nat) (rt : Option FieldType) : Prop :=
  p.tables.exec = Jvm.exec ∧ c.code = cc ∧ c.maxLocals = nL ∧ meth.sig.returnType = rt ∧ meth.locks = false ∧ s.vm.findClass own = some m.cls ∧ (∀ w ∈ lw_g, w.before args s = true) ∧ z_K D cA sh s ∧ ∀ x, s.heap.size ≤ x → A x
/-- fields by their entries in the class's constants -/
def z_flok (own : String) (fl : Nat → Nat → Option Nat) : Prop := ∀ ci i j, fl ci i = some j → ∃ (C : String) (T : u_T) (N : Nat) (ty : Nat → FieldType), z_cl[ci]? = some (C, T, N) ∧ j < N ∧ (∀ w ∈ u_ws C T N, w ∈ lw_g) ∧ Cond.fieldLink own i (T j).1 (T j).2.1 (T j).2.2.1 ∈ lw_g ∧ (∀ k, k < N → parseFieldDescriptor (T k).2.2.1 = some (ty k)) ∧ (∀ a, a < N → ∀ b, b < N → a ≠ b → (T a).2.1 ≠ (T b).2.1) ∧ (z_int ci j = true → ty j = .int ∧ (T j).2.2.2 = false)
def z_kcok (own : String) (kc : Nat → Option Int32) (kl : Nat → Option Int64) : Prop := (∀ i v, kc i = some v → Cond.constant own i v ∈ lw_g) ∧ ∀ i v, kl i = some v → Cond.constantLong own i v ∈ lw_g
/-- a call that is known: at its instruction, with its arguments on the stack -/
def z_csok (own : String) (R : Room) (sh : List ZE) (cs : List (Nat × ZC)) : Prop := ∀ i cl, cs.lookup i = some cl → ∀ (p : Program) (l : Launch) (e : Env) (s : State) (m : MethodId) (args : Array Value) (below : List Frame) (meth : Method) (c : Code) (D : va_G) (cA : Nat → ClassId) (q : Nat → Nat) (A : Nat → Prop) (ex : va_W) (nL : Nat) (Q : State → Prop) (cc : ByteArray) (rt : Option FieldType),
  z_Cx p s m args meth c D cA A sh cc own nL rt → ∀ (g pc : Nat) (L : List (Option Value)) (as r : List Value) (S : ZS) (post : Option Value → ZS → Prop), decode cc pc = .ok (bif cl.2.2.1 then .invokestatic i else .invokevirtual i, 3) → as.length = cl.1 → z_cat r ≤ 8 → g + cl.2.1 ≤ R.cells ∧ g + cl.2.1 ≤ R.slots → cl.2.2.2 as S post →
  (∀ v S2, post v S2 → z_W p l e R s m args below meth c D cA q A sh ex nL Q (g + cl.2.1) (pc + 3) L (v.toList ++ r) S2) → z_W p l e R s m args below meth c D cA q A sh ex nL Q g pc L (as.reverse ++ r) S
/-- a method's end: its answer and the state behind it -/
def z_Q (D : va_G) (cA : Nat → ClassId) (q : Nat → Nat) (sh : List ZE) (ex : va_W) (post : Option Value → ZS → Prop) (A : Nat → Prop) : Array Value → State → Outcome → State → Prop := fun _ st oc t =>
  (∃ (r : Option Value) (S' : ZS), oc = .returned (r.map (z_em q)) ∧ post r S' ∧ va_P D z_cl (z_ws cA q S' sh ++ ex) t.heap) ∧ va_F A st t
section ZSND
variable {p : Program} {l : Launch} {e : Env} {R : Room} {s : State} {m : MethodId} {args : Array Value} {below : List Frame} {meth : Method} {c : Code} {D : va_G} {cA : Nat → ClassId} {q : Nat → Nat} {A : Nat → Prop} {sh : List ZE} {ex : va_W} {nL : Nat} {cc : ByteArray} {own : String} {rt : Option FieldType} {fl : Nat → Nat → Option Nat} {cs : List (Nat × ZC)} {kc : Nat → Option Int32} {kl : Nat → Option Int64} {mc : Nat} {ρ : Option Value → ZS → Prop} {stop : Prop} {go : ZK}
set_option maxHeartbeats 4000000 in
theorem z_do_ok (C : z_Cx p s m args meth c D cA A sh cc own nL rt) (hfl : z_flok own fl) (hkc : z_kcok own kc kl) (hcs : z_csok own R sh cs) (hmc : mc ≤ R.cells ∧ mc ≤ R.slots)
    (hgo : ∀ g pc L st S, g ≤ mc → go g pc L st S → z_W p l e R s m args below meth c D cA q A sh ex nL (MQ below (z_Q D cA q sh ex ρ A) args s mc mc A) g pc L st S)
    {ins : Instr} {len g pc : Nat} {L : List (Option Value)} {st : List Value} {S : ZS} (hg : g ≤ mc) 
    (hstop : stop → z_W p l e R s m args below meth c D cA q A sh ex nL (MQ below (z_Q D cA q sh ex ρ A) args s mc mc A) g pc L st S)
    (hd : decode cc pc = .ok (ins, len)) (hlen : z_okl ins len = true) (h : z_do nL sh fl cs kc kl rt mc ρ stop go ins g pc L st S) :
    z_W p l e R s m args below meth c D cA q A sh ex nL (MQ below (z_Q D cA q sh ex ρ A) args s mc mc A) g pc L st S := by
  obtain ⟨hx, hb, hml, hr, hlocks, hown, hts, hK, hA⟩ := id C
  have hto : ∀ {off : Int} {k : Nat → Prop}, z_to pc off k → ∃ t : Nat, (pc : Int) + off = (t : Int) ∧ k t := fun {off k} h => ⟨((pc : Int) + off).toNat, (Int.toNat_of_nonneg h.1).symm, h.2⟩
  cases ins
  case iconst n =>
    obtain rfl : len = 1 := eq_of_beq hlen
    exact fun H locs ls hP hD hS hL => lv_iconst hx hb hd rfl (hgo _ _ _ _ _ hg h H locs ls hP hD hS hL)
  case bipush n =>
    obtain rfl : len = 2 := eq_of_beq hlen
    exact fun H locs ls hP hD hS hL => lv_bipush hx hb hd rfl (hgo _ _ _ _ _ hg h H locs ls hP hD hS hL)
  case sipush n =>
    obtain rfl : len = 3 := eq_of_beq hlen
    exact fun H locs ls hP hD hS hL => lv_sipush hx hb hd rfl (hgo _ _ _ _ _ hg h H locs ls hP hD hS hL)
  case lconst n =>
    obtain rfl : len = 1 := eq_of_beq hlen
    exact fun H locs ls hP hD hS hL => lv_lconst hx hb hd rfl (hgo _ _ _ _ _ hg h H locs ls hP hD hS hL)
  case ldc i =>
    obtain rfl : len = 2 := eq_of_beq hlen
    obtain ⟨v, hv, h_1⟩ := z_one_of h
    exact fun H locs ls hP hD hS hL => lv_ldc hx hb hown (hts _ (hkc.1 _ _ hv)) hd (hgo _ _ _ _ _ hg h_1 H locs ls hP hD hS hL)
  case ldc_w i =>
    obtain rfl : len = 3 := eq_of_beq hlen
    obtain ⟨v, hv, h_1⟩ := z_one_of h
    exact fun H locs ls hP hD hS hL => lv_ldcw hx hb hown (hts _ (hkc.1 _ _ hv)) hd (hgo _ _ _ _ _ hg h_1 H locs ls hP hD hS hL)
  case ldc2_w i =>
    obtain rfl : len = 3 := eq_of_beq hlen
    obtain ⟨v, hv, h_1⟩ := z_one_of h
    exact fun H locs ls hP hD hS hL => lv_ldc2 hx hb hown (hts _ (hkc.2 _ _ hv)) hd (hgo _ _ _ _ _ hg h_1 H locs ls hP hD hS hL)
  case iload_n i =>
    obtain rfl : len = 1 := eq_of_beq hlen
    obtain ⟨v, hv, h_1⟩ := z_lv_of h
    obtain ⟨x, rfl, h_2⟩ := z_isI_of h_1
    exact fun H locs ls hP hD hS hL => lv_iload_n hx hb hd rfl (hL.2.2 _ _ hv) (hgo _ _ _ _ _ hg h_2 H locs ls hP hD hS hL)
  case iload i =>
    obtain rfl : len = 2 := eq_of_beq hlen
    obtain ⟨v, hv, h_1⟩ := z_lv_of h
    obtain ⟨x, rfl, h_2⟩ := z_isI_of h_1
    exact fun H locs ls hP hD hS hL => lv_iload hx hb hd (hL.2.2 _ _ hv) (hgo _ _ _ _ _ hg h_2 H locs ls hP hD hS hL)
  case lload_n i =>
    obtain rfl : len = 1 := eq_of_beq hlen
    obtain ⟨v, hv, h_1⟩ := z_lv_of h
    obtain ⟨x, rfl, h_2⟩ := z_isJ_of h_1
    exact fun H locs ls hP hD hS hL => lv_lload_n hx hb hd rfl (hL.2.2 _ _ hv) (hgo _ _ _ _ _ hg h_2 H locs ls hP hD hS hL)
  case lload i =>
    obtain rfl : len = 2 := eq_of_beq hlen
    obtain ⟨v, hv, h_1⟩ := z_lv_of h
    obtain ⟨x, rfl, h_2⟩ := z_isJ_of h_1
    exact fun H locs ls hP hD hS hL => lv_lload hx hb hd (hL.2.2 _ _ hv) (hgo _ _ _ _ _ hg h_2 H locs ls hP hD hS hL)
  case aload_n i =>
    obtain rfl : len = 1 := eq_of_beq hlen
    obtain ⟨v, hv, h_1⟩ := z_lv_of h
    rcases z_isR_of h_1 with ⟨x, rfl, h_2⟩ | ⟨rfl, h_2⟩
    · exact fun H locs ls hP hD hS hL => lv_aload_n hx hb hd rfl (hL.2.2 _ _ hv) (hgo _ _ _ _ _ hg h_2 H locs ls hP hD hS hL)
    · exact fun H locs ls hP hD hS hL => lv_aload_nN hx hb hd rfl (hL.2.2 _ _ hv) (hgo _ _ _ _ _ hg h_2 H locs ls hP hD hS hL)
  case aload i =>
    obtain rfl : len = 2 := eq_of_beq hlen
    obtain ⟨v, hv, h_1⟩ := z_lv_of h
    rcases z_isR_of h_1 with ⟨x, rfl, h_2⟩ | ⟨rfl, h_2⟩
    · exact fun H locs ls hP hD hS hL => lv_aload hx hb hd (hL.2.2 _ _ hv) (hgo _ _ _ _ _ hg h_2 H locs ls hP hD hS hL)
    · exact fun H locs ls hP hD hS hL => lv_aloadN hx hb hd (hL.2.2 _ _ hv) (hgo _ _ _ _ _ hg h_2 H locs ls hP hD hS hL)
  case istore_n i =>
    obtain rfl : len = 1 := eq_of_beq hlen
    obtain ⟨x, st, rfl, hn, h_1⟩ := z_pI_of h
    exact fun H locs ls hP hD hS hL => lv_istore_n hx hb hd rfl hL.has hn rfl (fun ls1 hl1 => (hgo _ _ _ _ _ hg h_1 H locs ls1 hP hD hS (z_L.st (v := .int x) hl1)))
  case istore i =>
    obtain rfl : len = 2 := eq_of_beq hlen
    obtain ⟨x, st, rfl, hn, h_1⟩ := z_pI_of h
    exact fun H locs ls hP hD hS hL => lv_istore hx hb hd hL.has hn rfl (fun ls1 hl1 => (hgo _ _ _ _ _ hg h_1 H locs ls1 hP hD hS (z_L.st (v := .int x) hl1)))
  case lstore_n i =>
    obtain rfl : len = 1 := eq_of_beq hlen
    obtain ⟨x, st, rfl, hn, h_1⟩ := z_pJ_of h
    exact fun H locs ls hP hD hS hL => lv_lstore_n hx hb hd rfl hL.has hn rfl (fun ls1 hl1 => (hgo _ _ _ _ _ hg h_1 H locs ls1 hP hD hS (z_L.stL (v := .long x) hl1)))
  case lstore i =>
    obtain rfl : len = 2 := eq_of_beq hlen
    obtain ⟨x, st, rfl, hn, h_1⟩ := z_pJ_of h
    exact fun H locs ls hP hD hS hL => lv_lstore hx hb hd hL.has hn rfl (fun ls1 hl1 => (hgo _ _ _ _ _ hg h_1 H locs ls1 hP hD hS (z_L.stL (v := .long x) hl1)))
  case astore_n i =>
    obtain rfl : len = 1 := eq_of_beq hlen
    obtain ⟨v, st, rfl, h_1⟩ := z_pV_of h
    rcases z_isR_of h_1 with ⟨x, rfl, hn, h_2⟩ | ⟨rfl, hn, h_2⟩
    · exact fun H locs ls hP hD hS hL => lv_astore_n hx hb hd rfl hL.has hn rfl (fun ls1 hl1 => (hgo _ _ _ _ _ hg h_2 H locs ls1 hP hD hS (z_L.st (v := .ref x) hl1)))
    · exact fun H locs ls hP hD hS hL => lv_astore_nN hx hb hd rfl hL.has hn rfl (fun ls1 hl1 => (hgo _ _ _ _ _ hg h_2 H locs ls1 hP hD hS (z_L.st (v := .null) hl1)))
  case astore i =>
    obtain rfl : len = 2 := eq_of_beq hlen
    obtain ⟨v, st, rfl, h_1⟩ := z_pV_of h
    rcases z_isR_of h_1 with ⟨x, rfl, hn, h_2⟩ | ⟨rfl, hn, h_2⟩
    · exact fun H locs ls hP hD hS hL => lv_astore hx hb hd hL.has hn rfl (fun ls1 hl1 => (hgo _ _ _ _ _ hg h_2 H locs ls1 hP hD hS (z_L.st (v := .ref x) hl1)))
    · exact fun H locs ls hP hD hS hL => lv_astoreN hx hb hd hL.has hn rfl (fun ls1 hl1 => (hgo _ _ _ _ _ hg h_2 H locs ls1 hP hD hS (z_L.st (v := .null) hl1)))
  case iinc i n =>
    obtain rfl : len = 3 := eq_of_beq hlen
    obtain ⟨v, hv, h_1⟩ := z_lv_of h
    obtain ⟨x, rfl, hn, h_2⟩ := z_isI_of h_1
    intro H locs ls hP hD hS hL
    obtain ⟨k, hk⟩ := List.getElem?_of_mem (z_prs_in (q := q) hv)
    exact lv_iinc hx hb hd hL.has hk rfl hn rfl (fun ls1 hl1 => (hgo _ _ _ _ _ hg h_2 H locs ls1 hP hD hS (z_L.st (v := .int (x + Int32.ofInt n)) hl1)))
  case iadd =>
    obtain rfl : len = 1 := eq_of_beq hlen
    obtain ⟨y, st, rfl, h_1⟩ := z_pI_of h
    obtain ⟨x, st, rfl, h_2⟩ := z_pI_of h_1
    exact fun H locs ls hP hD hS hL => lv_iadd hx hb hd (hgo _ _ _ _ _ hg h_2 H locs ls hP hD hS hL)
  case isub =>
    obtain rfl : len = 1 := eq_of_beq hlen
    obtain ⟨y, st, rfl, h_1⟩ := z_pI_of h
    obtain ⟨x, st, rfl, h_2⟩ := z_pI_of h_1
    exact fun H locs ls hP hD hS hL => lv_isub hx hb hd (hgo _ _ _ _ _ hg h_2 H locs ls hP hD hS hL)
  case imul =>
    obtain rfl : len = 1 := eq_of_beq hlen
    obtain ⟨y, st, rfl, h_1⟩ := z_pI_of h
    obtain ⟨x, st, rfl, h_2⟩ := z_pI_of h_1
    exact fun H locs ls hP hD hS hL => lv_imul hx hb hd (hgo _ _ _ _ _ hg h_2 H locs ls hP hD hS hL)
  case iand =>
    obtain rfl : len = 1 := eq_of_beq hlen
    obtain ⟨y, st, rfl, h_1⟩ := z_pI_of h
    obtain ⟨x, st, rfl, h_2⟩ := z_pI_of h_1
    exact fun H locs ls hP hD hS hL => lv_iand hx hb hd (hgo _ _ _ _ _ hg h_2 H locs ls hP hD hS hL)
  case ior =>
    obtain rfl : len = 1 := eq_of_beq hlen
    obtain ⟨y, st, rfl, h_1⟩ := z_pI_of h
    obtain ⟨x, st, rfl, h_2⟩ := z_pI_of h_1
    exact fun H locs ls hP hD hS hL => lv_ior hx hb hd (hgo _ _ _ _ _ hg h_2 H locs ls hP hD hS hL)
  case ixor =>
    obtain rfl : len = 1 := eq_of_beq hlen
    obtain ⟨y, st, rfl, h_1⟩ := z_pI_of h
    obtain ⟨x, st, rfl, h_2⟩ := z_pI_of h_1
    exact fun H locs ls hP hD hS hL => lv_ixor hx hb hd (hgo _ _ _ _ _ hg h_2 H locs ls hP hD hS hL)
  case ishl =>
    obtain rfl : len = 1 := eq_of_beq hlen
    obtain ⟨y, st, rfl, h_1⟩ := z_pI_of h
    obtain ⟨x, st, rfl, h_2⟩ := z_pI_of h_1
    exact fun H locs ls hP hD hS hL => lv_ishl hx hb hd (hgo _ _ _ _ _ hg h_2 H locs ls hP hD hS hL)
  case ishr =>
    obtain rfl : len = 1 := eq_of_beq hlen
    obtain ⟨y, st, rfl, h_1⟩ := z_pI_of h
    obtain ⟨x, st, rfl, h_2⟩ := z_pI_of h_1
    exact fun H locs ls hP hD hS hL => lv_ishr hx hb hd (hgo _ _ _ _ _ hg h_2 H locs ls hP hD hS hL)
  case iushr =>
    obtain rfl : len = 1 := eq_of_beq hlen
    obtain ⟨y, st, rfl, h_1⟩ := z_pI_of h
    obtain ⟨x, st, rfl, h_2⟩ := z_pI_of h_1
    exact fun H locs ls hP hD hS hL => lv_iushr hx hb hd rfl (hgo _ _ _ _ _ hg h_2 H locs ls hP hD hS hL)
  case idiv =>
    obtain rfl : len = 1 := eq_of_beq hlen
    obtain ⟨y, st, rfl, h_1⟩ := z_pI_of h
    obtain ⟨x, st, rfl, hne, h_2⟩ := z_pI_of h_1
    exact fun H locs ls hP hD hS hL => lv_idiv hx hb hd hne (hgo _ _ _ _ _ hg h_2 H locs ls hP hD hS hL)
  case irem =>
    obtain rfl : len = 1 := eq_of_beq hlen
    obtain ⟨y, st, rfl, h_1⟩ := z_pI_of h
    obtain ⟨x, st, rfl, hne, h_2⟩ := z_pI_of h_1
    exact fun H locs ls hP hD hS hL => lv_irem hx hb hd hne (hgo _ _ _ _ _ hg h_2 H locs ls hP hD hS hL)
  case ladd =>
    obtain rfl : len = 1 := eq_of_beq hlen
    obtain ⟨y, st, rfl, h_1⟩ := z_pJ_of h
    obtain ⟨x, st, rfl, h_2⟩ := z_pJ_of h_1
    exact fun H locs ls hP hD hS hL => lv_ladd hx hb hd (hgo _ _ _ _ _ hg h_2 H locs ls hP hD hS hL)
  case lsub =>
    obtain rfl : len = 1 := eq_of_beq hlen
    obtain ⟨y, st, rfl, h_1⟩ := z_pJ_of h
    obtain ⟨x, st, rfl, h_2⟩ := z_pJ_of h_1
    exact fun H locs ls hP hD hS hL => lv_lsub hx hb hd (hgo _ _ _ _ _ hg h_2 H locs ls hP hD hS hL)
  case lmul =>
    obtain rfl : len = 1 := eq_of_beq hlen
    obtain ⟨y, st, rfl, h_1⟩ := z_pJ_of h
    obtain ⟨x, st, rfl, h_2⟩ := z_pJ_of h_1
    exact fun H locs ls hP hD hS hL => lv_lmul hx hb hd (hgo _ _ _ _ _ hg h_2 H locs ls hP hD hS hL)
  case ldiv =>
    obtain rfl : len = 1 := eq_of_beq hlen
    obtain ⟨y, st, rfl, h_1⟩ := z_pJ_of h
    obtain ⟨x, st, rfl, hne, h_2⟩ := z_pJ_of h_1
    exact fun H locs ls hP hD hS hL => lv_ldiv hx hb hd hne (hgo _ _ _ _ _ hg h_2 H locs ls hP hD hS hL)
  case lrem =>
    obtain rfl : len = 1 := eq_of_beq hlen
    obtain ⟨y, st, rfl, h_1⟩ := z_pJ_of h
    obtain ⟨x, st, rfl, hne, h_2⟩ := z_pJ_of h_1
    exact fun H locs ls hP hD hS hL => lv_lrem hx hb hd hne (hgo _ _ _ _ _ hg h_2 H locs ls hP hD hS hL)
  case lcmp =>
    obtain rfl : len = 1 := eq_of_beq hlen
    obtain ⟨y, st, rfl, h_1⟩ := z_pJ_of h
    obtain ⟨x, st, rfl, h_2⟩ := z_pJ_of h_1
    exact fun H locs ls hP hD hS hL => W.lcmp hx hb hd (hgo _ _ _ _ _ hg h_2 H locs ls hP hD hS hL)
  case i2l =>
    obtain rfl : len = 1 := eq_of_beq hlen
    obtain ⟨x, st, rfl, h_1⟩ := z_pI_of h
    exact fun H locs ls hP hD hS hL => lv_i2l hx hb hd rfl (hgo _ _ _ _ _ hg h_1 H locs ls hP hD hS hL)
  case i2b =>
    obtain rfl : len = 1 := eq_of_beq hlen
    obtain ⟨x, st, rfl, h_1⟩ := z_pI_of h
    exact fun H locs ls hP hD hS hL => lv_i2b hx hb hd rfl (hgo _ _ _ _ _ hg h_1 H locs ls hP hD hS hL)
  case i2s =>
    obtain rfl : len = 1 := eq_of_beq hlen
    obtain ⟨x, st, rfl, h_1⟩ := z_pI_of h
    exact fun H locs ls hP hD hS hL => lv_i2s hx hb hd rfl (hgo _ _ _ _ _ hg h_1 H locs ls hP hD hS hL)
  case dup =>
    obtain rfl : len = 1 := eq_of_beq hlen
    obtain ⟨v, st, rfl, hc, h_1⟩ := z_pV_of h
    exact fun H locs ls hP hD hS hL => lv_dup hx hb hd (by rw [z_em_cat]; exact hc) (hgo _ _ _ _ _ hg h_1 H locs ls hP hD hS hL)
  case dup2 =>
    obtain rfl : len = 1 := eq_of_beq hlen
    obtain ⟨v, st, rfl, h_1⟩ := z_pV_of h
    obtain ⟨w, st, rfl, hc, h_2⟩ := z_pV_of h_1
    exact fun H locs ls hP hD hS hL => lv_dup2_11 hx hb hd (by rw [z_em_cat]; exact hc.1) (by rw [z_em_cat]; exact hc.2) (hgo _ _ _ _ _ hg h_2 H locs ls hP hD hS hL)
  case aconst_null =>
    obtain rfl : len = 1 := eq_of_beq hlen
    exact fun H locs ls hP hD hS hL => lv_null hx hb hd (hgo _ _ _ _ _ hg h H locs ls hP hD hS hL)
  case if_icmp c off =>
    obtain rfl : len = 3 := eq_of_beq hlen
    obtain ⟨y, st, rfl, h_1⟩ := z_pI_of h
    obtain ⟨x, st, rfl, h_2⟩ := z_pI_of h_1
    obtain ⟨t, ht, h_3⟩ := hto h_2
    cases c
    case eq => exact fun H locs ls hP hD hS hL => lv_icmp_eq hx hb hd ht (fun k => (hgo _ _ _ _ _ hg (h_3.1 k) H locs ls hP hD hS hL)) (fun k => (hgo _ _ _ _ _ hg (h_3.2 k) H locs ls hP hD hS hL))
    case lt => exact fun H locs ls hP hD hS hL => lv_icmp_lt hx hb hd ht (fun k => (hgo _ _ _ _ _ hg (h_3.1 k) H locs ls hP hD hS hL)) (fun k => (hgo _ _ _ _ _ hg (h_3.2 k) H locs ls hP hD hS hL))
    case ge => exact fun H locs ls hP hD hS hL => lv_icmp_ge hx hb hd ht (fun k => (hgo _ _ _ _ _ hg (h_3.1 k) H locs ls hP hD hS hL)) (fun k => (hgo _ _ _ _ _ hg (h_3.2 k) H locs ls hP hD hS hL))
    case gt => exact fun H locs ls hP hD hS hL => lv_icmp_gt hx hb hd ht (fun k => (hgo _ _ _ _ _ hg (h_3.1 k) H locs ls hP hD hS hL)) (fun k => (hgo _ _ _ _ _ hg (h_3.2 k) H locs ls hP hD hS hL))
    case le => exact fun H locs ls hP hD hS hL => lv_icmp_le hx hb hd ht (fun k => (hgo _ _ _ _ _ hg (h_3.1 k) H locs ls hP hD hS hL)) (fun k => (hgo _ _ _ _ _ hg (h_3.2 k) H locs ls hP hD hS hL))
    case ne => exact fun H locs ls hP hD hS hL => lv_icmp_ne hx hb hd ht (fun k => (hgo _ _ _ _ _ hg (h_3.2 k) H locs ls hP hD hS hL)) (fun k => (hgo _ _ _ _ _ hg (h_3.1 k) H locs ls hP hD hS hL))
  case ifCond c off =>
    obtain rfl : len = 3 := eq_of_beq hlen
    obtain ⟨x, st, rfl, h_1⟩ := z_pI_of h
    obtain ⟨t, ht, h_2⟩ := hto h_1
    cases c
    case eq => exact fun H locs ls hP hD hS hL => lv_if_eq hx hb hd ht (fun k => (hgo _ _ _ _ _ hg (h_2.1 k) H locs ls hP hD hS hL)) (fun k => (hgo _ _ _ _ _ hg (h_2.2 k) H locs ls hP hD hS hL))
    case lt => exact fun H locs ls hP hD hS hL => lv_if_lt hx hb hd ht (fun k => (hgo _ _ _ _ _ hg (h_2.1 k) H locs ls hP hD hS hL)) (fun k => (hgo _ _ _ _ _ hg (h_2.2 k) H locs ls hP hD hS hL))
    case ge => exact fun H locs ls hP hD hS hL => lv_if_ge hx hb hd ht (fun k => (hgo _ _ _ _ _ hg (h_2.1 k) H locs ls hP hD hS hL)) (fun k => (hgo _ _ _ _ _ hg (h_2.2 k) H locs ls hP hD hS hL))
    case gt => exact fun H locs ls hP hD hS hL => lv_if_gt hx hb hd ht (fun k => (hgo _ _ _ _ _ hg (h_2.1 k) H locs ls hP hD hS hL)) (fun k => (hgo _ _ _ _ _ hg (h_2.2 k) H locs ls hP hD hS hL))
    case le => exact fun H locs ls hP hD hS hL => lv_if_le hx hb hd ht (fun k => (hgo _ _ _ _ _ hg (h_2.1 k) H locs ls hP hD hS hL)) (fun k => (hgo _ _ _ _ _ hg (h_2.2 k) H locs ls hP hD hS hL))
    case ne => exact fun H locs ls hP hD hS hL => lv_if_ne hx hb hd ht (fun k => (hgo _ _ _ _ _ hg (h_2.2 k) H locs ls hP hD hS hL)) (fun k => (hgo _ _ _ _ _ hg (h_2.1 k) H locs ls hP hD hS hL))
  case goto off =>
    obtain rfl : len = 3 := eq_of_beq hlen
    obtain ⟨t, ht, h_1⟩ := hto (k := fun t => go g t L st S) h
    exact fun H locs ls hP hD hS hL => lv_goto hx hb hd ht (hgo _ _ _ _ _ hg h_1 H locs ls hP hD hS hL)
  case ifnull off =>
    obtain rfl : len = 3 := eq_of_beq hlen
    obtain ⟨v, st, rfl, h_1⟩ := z_pV_of h
    obtain ⟨t, ht, h_2⟩ := hto h_1
    rcases z_nr_of h_2 with ⟨x, rfl, h_3⟩ | ⟨rfl, h_3⟩
    · exact fun H locs ls hP hD hS hL => lv_ifnull hx hb hd (hgo _ _ _ _ _ hg h_3 H locs ls hP hD hS hL)
    · exact fun H locs ls hP hD hS hL => lv_ifnullN hx hb hd ht (hgo _ _ _ _ _ hg h_3 H locs ls hP hD hS hL)
  case ifnonnull off =>
    obtain rfl : len = 3 := eq_of_beq hlen
    obtain ⟨v, st, rfl, h_1⟩ := z_pV_of h
    obtain ⟨t, ht, h_2⟩ := hto h_1
    rcases z_nr_of h_2 with ⟨x, rfl, h_3⟩ | ⟨rfl, h_3⟩
    · exact fun H locs ls hP hD hS hL => lv_ifnonnull hx hb hd ht (hgo _ _ _ _ _ hg h_3 H locs ls hP hD hS hL)
    · exact fun H locs ls hP hD hS hL => lv_ifnonnullN hx hb hd (hgo _ _ _ _ _ hg h_3 H locs ls hP hD hS hL)
  case iaload =>
    obtain rfl : len = 1 := eq_of_beq hlen
    obtain ⟨i, st, rfl, h_1⟩ := z_pI_of h
    obtain ⟨a, st, rfl, h_2⟩ := z_pR_of h_1
    obtain ⟨n, b, hsh, hin, h_3⟩ := z_ari_of h_2
    exact fun H locs ls hP hD hS hL => va_iald hx hb (hK.one hsh) hP a 0 (z_at_i hsh) rfl hin hd (hgo _ _ _ _ _ hg h_3 H locs ls hP hD hS hL)
  case baload =>
    obtain rfl : len = 1 := eq_of_beq hlen
    obtain ⟨i, st, rfl, h_1⟩ := z_pI_of h
    obtain ⟨a, st, rfl, h_2⟩ := z_pR_of h_1
    obtain ⟨n, b, hsh, hin, h_3⟩ := z_ari_of h_2
    exact fun H locs ls hP hD hS hL => va_zald hx hb (hK.one hsh) hP a 0 (z_at_z hsh) rfl hin hd (hgo _ _ _ _ _ hg h_3 H locs ls hP hD hS hL)
  case laload =>
    obtain rfl : len = 1 := eq_of_beq hlen
    obtain ⟨i, st, rfl, h_1⟩ := z_pI_of h
    obtain ⟨a, st, rfl, h_2⟩ := z_pR_of h_1
    obtain ⟨n, b, hsh, hin, h_3⟩ := z_ari_of h_2
    exact fun H locs ls hP hD hS hL => va_lald hx hb (hK.one hsh) hP a 0 (z_at_l hsh) rfl hin hd (hgo _ _ _ _ _ hg h_3 H locs ls hP hD hS hL)
  case aaload =>
    obtain rfl : len = 1 := eq_of_beq hlen
    obtain ⟨i, st, rfl, h_1⟩ := z_pI_of h
    obtain ⟨a, st, rfl, h_2⟩ := z_pR_of h_1
    obtain ⟨n, b, hsh, hin, h_3⟩ := z_ari_of h_2
    exact fun H locs ls hP hD hS hL => va_aldq hx hb (hK.one hsh) hP a 0 (z_at_s hsh) rfl hin hd (hgo _ _ _ _ _ hg h_3 H locs ls hP hD hS hL)
  case iastore =>
    obtain rfl : len = 1 := eq_of_beq hlen
    obtain ⟨x, st, rfl, h_1⟩ := z_pI_of h
    obtain ⟨i, st, rfl, h_2⟩ := z_pI_of h_1
    obtain ⟨a, st, rfl, h_3⟩ := z_pR_of h_2
    obtain ⟨n, b, hsh, hin, h_4⟩ := z_ari_of h_3
    intro H locs ls hP hD hS hL
    refine va_iast hx hb (hK.one hsh) hP hD hS a 0 (z_at_i hsh) rfl hin hd (fun H1 locs1 hP1 hD1 hS1 => ?_)
    rw [z_set_i hsh] at hP1 hD1
    exact hgo _ _ _ _ _ hg h_4 H1 locs1 ls hP1 hD1 hS1 hL
  case bastore =>
    obtain rfl : len = 1 := eq_of_beq hlen
    obtain ⟨x, st, rfl, h_1⟩ := z_pI_of h
    obtain ⟨i, st, rfl, h_2⟩ := z_pI_of h_1
    obtain ⟨a, st, rfl, h_3⟩ := z_pR_of h_2
    obtain ⟨n, b, hsh, hin, h_4⟩ := z_ari_of h_3
    intro H locs ls hP hD hS hL
    refine va_zast hx hb (hK.one hsh) hP hD hS a 0 (z_at_z hsh) rfl hin hd (fun H1 locs1 hP1 hD1 hS1 => ?_)
    rw [z_set_z hsh] at hP1 hD1
    exact hgo _ _ _ _ _ hg h_4 H1 locs1 ls hP1 hD1 hS1 hL
  case lastore =>
    obtain rfl : len = 1 := eq_of_beq hlen
    obtain ⟨x, st, rfl, h_1⟩ := z_pJ_of h
    obtain ⟨i, st, rfl, h_2⟩ := z_pI_of h_1
    obtain ⟨a, st, rfl, h_3⟩ := z_pR_of h_2
    obtain ⟨n, b, hsh, hin, h_4⟩ := z_ari_of h_3
    intro H locs ls hP hD hS hL
    refine va_last hx hb (hK.one hsh) hP hD hS a 0 (z_at_l hsh) rfl hin hd (fun H1 locs1 hP1 hD1 hS1 => ?_)
    rw [z_set_l hsh] at hP1 hD1
    exact hgo _ _ _ _ _ hg h_4 H1 locs1 ls hP1 hD1 hS1 hL
  case arraylength =>
    obtain rfl : len = 1 := eq_of_beq hlen
    obtain ⟨a, st, rfl, h_1⟩ := z_pR_of h
    obtain ⟨t, n, b, hsh, h_2⟩ := z_alen_of h_1
    exact fun H locs ls hP hD hS hL => va_alen hx hb (hK.one hsh) hP a 0 (z_at hsh) rfl rfl hd (hgo _ _ _ _ _ hg h_2 H locs ls hP hD hS hL)
  case getfield i =>
    obtain rfl : len = 3 := eq_of_beq hlen
    obtain ⟨a, st, rfl, h_1⟩ := z_pR_of h
    obtain ⟨ci, fs, j, f, hsh, hj, hf, h_2⟩ := z_fld_of h_1
    obtain ⟨C, T, N, ty, hcl, hjN, hin, hlk, hty, hnm, hint⟩ := hfl _ _ _ hj
    cases f with
    | none => exact fun H locs ls hP hD hS hL => va_get hx hb hts hin hown hK.va hP a (z_at hsh) hcl j hjN (hts _ hlk) (fun _ h9 => h9) (z_fs_at hf) hd (hgo _ _ _ _ _ hg h_2 H locs ls hP hD hS hL)
    | some w => exact fun H locs ls hP hD hS hL => va_get hx hb hts hin hown hK.va hP a (z_at hsh) hcl j hjN (hts _ hlk) (fun _ h9 => h9) (z_fs_at hf) hd (hgo _ _ _ _ _ hg h_2 H locs ls hP hD hS hL)
  case putfield i =>
    obtain rfl : len = 3 := eq_of_beq hlen
    obtain ⟨v, st, rfl, h_1⟩ := z_pI_of h
    obtain ⟨a, st, rfl, h_2⟩ := z_pR_of h_1
    obtain ⟨ci, fs, j, f, hsh, hj, hf, hi, h_3⟩ := z_fld_of h_2
    obtain ⟨C, T, N, ty, hcl, hjN, hin, hlk, hty, hnm, hint⟩ := hfl _ _ _ hj
    obtain ⟨ht, hfin⟩ := hint hi
    cases f with
    | some w => exact h_3.elim
    | none =>
      intro H locs ls hP hD hS hL
      refine va_put hx hb hts hin ty hty hnm hown hK.va hP hD hS a (z_at_o hsh) hcl j hjN (hts _ hlk) (fun _ h9 => h9) hfin (ty := .int) (v := .int v) (by rw [hty j hjN, ht]) rfl rfl (by rw [z_fs_len]; exact (List.getElem?_eq_some_iff.mp hf).1) hd (fun H1 locs1 hP1 hD1 hS1 => ?_)
      rw [z_set_f hsh hf] at hP1 hD1
      exact hgo _ _ _ _ _ hg h_3 H1 locs1 ls hP1 hD1 hS1 hL
  case tableswitch d lo hi os =>
    obtain ⟨x, st, rfl, h1, h2, h3⟩ := z_pI_of h
    by_cases hr : x.toInt < lo ∨ hi < x.toInt
    · obtain ⟨t, ht, h_1⟩ := hto (h1 hr)
      exact fun H locs ls hP hD hS hL => lv_tableOut hx hb hd hr ht (hgo _ _ _ _ _ hg h_1 H locs ls hP hD hS hL)
    · obtain ⟨o, e1, e2, h_2⟩ := z_tab_of os.toList lo h3 (by omega) (by omega)
      exact fun H locs ls hP hD hS hL => lv_tableIn hx hb hd (fun z => hr (Or.inl z)) (fun z => hr (Or.inr z)) (by rw [← Array.getElem?_toList]; exact e1) (Int.toNat_of_nonneg e2).symm (hgo _ _ _ _ _ hg h_2 H locs ls hP hD hS hL)
  case lookupswitch d ps =>
    obtain ⟨x, st, rfl, h1, h2⟩ := z_pI_of h
    obtain ⟨e2, h_1⟩ := z_lks_of ps.toList h2
    exact fun H locs ls hP hD hS hL => lv_lookup hx hb hd (z_inc_ok _ h1) rfl (Int.toNat_of_nonneg e2).symm (hgo _ _ _ _ _ hg h_1 H locs ls hP hD hS hL)
  case ireturn =>
    obtain rfl : len = 1 := eq_of_beq hlen
    obtain ⟨x, st, rfl, rfl, hrt, hm, h_1⟩ := z_pI_of h
    obtain ⟨ty, e1, e2⟩ := z_rt_of hrt
    exact fun H locs ls hP hD hS hL => W.widen hm hm (W.zret hx hb (hr.trans e1) e2 (fun t ht hW => ⟨⟨some (.int x), S, rfl, h_1, by rw [ht]; exact hP⟩, hS.F ht⟩) hS.2.2 hd hlocks)
  case lreturn =>
    obtain rfl : len = 1 := eq_of_beq hlen
    obtain ⟨x, st, rfl, rfl, hrt, hm, h_1⟩ := z_pJ_of h
    exact fun H locs ls hP hD hS hL => W.widen hm hm (W.lret hx hb (hr.trans hrt) (fun t ht hW => ⟨⟨some (.long x), S, rfl, h_1, by rw [ht]; exact hP⟩, hS.F ht⟩) hS.2.2 hd hlocks)
  case areturn =>
    obtain rfl : len = 1 := eq_of_beq hlen
    obtain ⟨x, st, rfl, rfl, hrt, hm, h_1⟩ := z_pV_of h
    obtain ⟨nm, e1⟩ := z_rto_of hrt
    rcases z_isR_of h_1 with ⟨y, rfl, h_2⟩ | ⟨rfl, h_2⟩
    · exact fun H locs ls hP hD hS hL => W.widen hm hm (W.aret hx hb (hr.trans e1) (Or.inl ⟨nm, rfl⟩) (Or.inr ⟨_, rfl⟩) (fun t ht hW => ⟨⟨some (.ref y), S, rfl, h_2, by rw [ht]; exact hP⟩, hS.F ht⟩) hS.2.2 hd hlocks)
    · exact fun H locs ls hP hD hS hL => W.widen hm hm (W.aret hx hb (hr.trans e1) (Or.inl ⟨nm, rfl⟩) (Or.inl rfl) (fun t ht hW => ⟨⟨some .null, S, rfl, h_2, by rw [ht]; exact hP⟩, hS.F ht⟩) hS.2.2 hd hlocks)
  case return_ =>
    obtain rfl : len = 1 := eq_of_beq hlen
    obtain ⟨rfl, hrt, hm, h_1⟩ := h
    exact fun H locs ls hP hD hS hL => W.widen hm hm (W.vret hx hb (hr.trans hrt) (fun t ht hW => ⟨⟨none, S, rfl, h_1, by rw [ht]; exact hP⟩, hS.F ht⟩) hS.2.2 hd hlocks)
  case invokestatic i =>
    obtain rfl : len = 3 := eq_of_beq hlen
    rcases z_cls_of h with ⟨cl, hc, hk, hm, h_1⟩ | h_1
    · obtain ⟨as, r, e1, e2, hcat, hw⟩ := z_args_of _ _ _ _ h_1
      simp only [List.reverse_nil, List.nil_append] at e1
      subst e1
      exact hcs i cl hc p l e s m args below meth c D cA q A ex nL _ cc rt C g pc L as r S _ (by rw [hk]; exact hd) (by simpa using e2) hcat ⟨Nat.le_trans hm hmc.1, Nat.le_trans hm hmc.2⟩ hw (fun v S2 hv => hgo _ _ _ _ _ hm hv)
    · exact hstop h_1
  case invokevirtual i =>
    obtain rfl : len = 3 := eq_of_beq hlen
    rcases z_cls_of h with ⟨cl, hc, hk, hm, h_1⟩ | h_1
    · obtain ⟨as, r, e1, e2, hcat, hw⟩ := z_args_of _ _ _ _ h_1
      simp only [List.reverse_nil, List.nil_append] at e1
      subst e1
      exact hcs i cl hc p l e s m args below meth c D cA q A ex nL _ cc rt C g pc L as r S _ (by rw [hk]; exact hd) (by simpa using e2) hcat ⟨Nat.le_trans hm hmc.1, Nat.le_trans hm hmc.2⟩ hw (fun v S2 hv => hgo _ _ _ _ _ hm hv)
    · exact hstop h_1
  all_goals exact hstop h
end ZSND

def z_step (K : ZK) (stp : Nat → Bool) (F : ZK) : ZK := fun g pc L st S => bif stp pc then K g pc L st S else F g pc L st S
def z_evx {ε : Type} (nL : Nat) (sh : List ZE) (fl : Nat → Nat → Option Nat) (cs : List (Nat × ZC)) (kc : Nat → Option Int32) (kl : Nat → Option Int64) (rt : Option FieldType) (mc : Nat) (ρ : Option Value → ZS → Prop) (K go : ZK) (r : Except ε (Instr × Nat)) (g pc : Nat) (L : List (Option Value)) (st : List Value) (S : ZS) : Prop := match r with
  | .ok x => z_okl x.1 x.2 = true ∧ z_do nL sh fl cs kc kl rt mc ρ (K g pc L st S) go x.1 g pc L st S
  | .error _ => K g pc L st S
def z_ev (cc : ByteArray) (nL : Nat) (sh : List ZE) (fl : Nat → Nat → Option Nat) (cs : List (Nat × ZC)) (kc : Nat → Option Int32) (kl : Nat → Option Int64) (rt : Option FieldType) (mc : Nat) (ρ : Option Value → ZS → Prop) (K : ZK) (stp : Nat → Bool) : Nat → ZK
  | 0 => K
  | n + 1 => fun g pc L st S => z_evx nL sh fl cs kc kl rt mc ρ K (z_step K stp (z_ev cc nL sh fl cs kc kl rt mc ρ K stp n)) (decode cc pc) g pc L st S
/-- a method's body, apart from the machine: from the precondition of what it may answer, any K that is closed under the evaluator holds at its entry -/
def z_Cl (cc : ByteArray) (nL : Nat) (sh : List ZE) (fl : Nat → Nat → Option Nat) (cs : List (Nat × ZC)) (kc : Nat → Option Int32) (kl : Nat → Option Int64) (rt : Option FieldType) (mc : Nat) (ρ : Option Value → ZS → Prop) (K : ZK) : Prop :=
  ∀ (stp : Nat → Bool) (n g pc : Nat) (L : List (Option Value)) (st : List Value) (S : ZS), g ≤ mc → z_ev cc nL sh fl cs kc kl rt mc ρ K stp n g pc L st S → K g pc L st S
def z_Pure (cc : ByteArray) (nL : Nat) (sh : List ZE) (fl : Nat → Nat → Option Nat) (cs : List (Nat × ZC)) (kc : Nat → Option Int32) (kl : Nat → Option Int64) (rt : Option FieldType) (mc : Nat) (wp : ZW) : Prop :=
  ∀ (as : List Value) (S : ZS) (post : Option Value → ZS → Prop), wp as S post → (z_en as).length ≤ nL ∧ ∀ K : ZK, z_Cl cc nL sh fl cs kc kl rt mc post K → K 0 0 (z_ent nL as) [] S
theorem z_en_len (q : Nat → Nat) : ∀ as : List Value, (lg_sl (as.map (z_em q))).length = (z_en as).length
  | [] => rfl
  | v :: t => by
    have ih := z_en_len q t
    have h1 : (lg_sl ((v :: t).map (z_em q))).length = (if v.category = 2 then 2 else 1) + (lg_sl (t.map (z_em q))).length := by
      simp only [List.map_cons, lg_sl, List.flatMap_cons, z_em_cat, List.length_append]
      split <;> rfl
    rw [h1, ih]
    cases v <;> simp [z_en, Value.category] <;> omega
section ZEV
variable {p : Program} {l : Launch} {e : Env} {R : Room} {s : State} {m : MethodId} {args : Array Value} {below : List Frame} {meth : Method} {c : Code} {D : va_G} {cA : Nat → ClassId} {q : Nat → Nat} {A : Nat → Prop} {sh : List ZE} {ex : va_W} {nL : Nat} {cc : ByteArray} {own : String} {rt : Option FieldType} {fl : Nat → Nat → Option Nat} {cs : List (Nat × ZC)} {kc : Nat → Option Int32} {kl : Nat → Option Int64} {mc : Nat} {ρ : Option Value → ZS → Prop}
theorem z_ev_ok (C : z_Cx p s m args meth c D cA A sh cc own nL rt) (hfl : z_flok own fl) (hkc : z_kcok own kc kl) (hcs : z_csok own R sh cs) (hmc : mc ≤ R.cells ∧ mc ≤ R.slots) :
    z_Cl cc nL sh fl cs kc kl rt mc ρ (z_W p l e R s m args below meth c D cA q A sh ex nL (MQ below (z_Q D cA q sh ex ρ A) args s mc mc A)) := by
  intro stp n
  induction n with
  | zero => intro g pc L st S _ h; exact h
  | succ n ih =>
    intro g pc L st S hg h
    have h : z_evx nL sh fl cs kc kl rt mc ρ _ (z_step _ stp (z_ev cc nL sh fl cs kc kl rt mc ρ _ stp n)) (decode cc pc) g pc L st S := h
    cases hd : decode cc pc with
    | error x => rw [hd] at h; exact h
    | ok x =>
      rw [hd] at h
      obtain ⟨ins, len⟩ := x
      refine z_do_ok C hfl hkc hcs hmc (go := z_step _ stp (z_ev cc nL sh fl cs kc kl rt mc ρ _ stp n)) ?_ hg (fun h => h) hd h.1 h.2
      intro g pc L st S hg h
      unfold z_step at h
      cases hs : stp pc with
      | true => rw [hs] at h; exact h
      | false => rw [hs] at h; exact ih g pc L st S hg h
end ZEV
/-- the contract of a method over a world of fixed shape, and any cells besides -/
def z_Pre (D : va_G) (cA : Nat → ClassId) (q : Nat → Nat) (sh : List ZE) (ex : va_W) (S : ZS) (sz : Nat) (as : List Value) : Array Value → State → Prop :=
  va_Pc (as.map (z_em q)) (fun U => U.heap.size = sz ∧ va_P D z_cl (z_ws cA q S sh ++ ex) U.heap ∧ z_K D cA sh U ∧ va_D (fun _ => True) (z_ws cA q S sh ++ ex))
theorem z_Pre_blind {D : va_G} {cA : Nat → ClassId} {q : Nat → Nat} {sh : List ZE} {ex : va_W} {S : ZS} {sz : Nat} {as : List Value} : FrameBlind (z_Pre D cA q sh ex S sz as) :=
  fun a U g mk h => ⟨h.1, h.2.1, h.2.2.1, z_K.same (s := U) (U := U.calling g mk a) rfl h.2.2.2.1, h.2.2.2.2⟩
def z_Ok (sh : List ZE) (y : MethodName) (cc : ByteArray) (nL : Nat) (rt : Option FieldType) (rm : Room) (mc : Nat) (wp : ZW) : Prop :=
  ∀ (l : Launch) (as : List Value) (S : ZS) (post : Option Value → ZS → Prop), wp as S post → ∀ (D : va_G) (cA : Nat → ClassId) (q : Nat → Nat) (ex : va_W) (sz : Nat),
    Met l y (Cond.code y cc nL rt :: lw_g) rm (z_Pre D cA q sh ex S sz as) (z_Q D cA q sh ex post (va_A (z_ws cA q S sh ++ ex) sz)) mc mc (va_A (z_ws cA q S sh ++ ex) sz)
theorem z_Ok_of {sh : List ZE} {y : MethodName} {cc : ByteArray} {nL : Nat} {rt : Option FieldType} {rm : Room} {mc : Nat} {wp : ZW} {fl : Nat → Nat → Option Nat} {cs : List (Nat × ZC)} {kc : Nat → Option Int32} {kl : Nat → Option Int64}
    (h : z_Pure cc nL sh fl cs kc kl rt mc wp) (hfl : z_flok y.cls fl) (hkc : z_kcok y.cls kc kl) (hcs : z_csok y.cls rm sh cs) (hmc : mc ≤ rm.cells ∧ mc ≤ rm.slots) (hpl : plainName y.cls = true) : z_Ok sh y cc nL rt rm mc wp := by
  intro l as S post hw D cA q ex sz
  refine Met.ofW (cc := cc) (maxL := nL) (ret := rt) hpl rfl ?_
  intro p e s m args below meth c s₁ B hml hv
  obtain ⟨rfl, hsz, hP, hK, hD0⟩ := hv
  have hts := atoms_spec (ws := Cond.code y cc nL rt :: lw_g) B.pre
  subst hsz
  have hD := hD0.self (sz := s.heap.size)
  have C : z_Cx p s m ((as.map (z_em q)).toArray) meth c D cA (va_A (z_ws cA q S sh ++ ex) s.heap.size) sh cc y.cls nL rt :=
    ⟨B.exec, B.bytes, hml, B.returns, B.notSynchronized, findClass_of_methodNamed B.named, fun w hw => hts w (List.mem_cons_of_mem _ hw), hK, fun x hx => Or.inr hx⟩
  obtain ⟨hlen, hk⟩ := h as S post hw
  have K := hk _ (z_ev_ok (l := l) (e := e) (R := (headSpec (Cond.code y cc nL rt :: lw_g) rm).room) (below := below) (q := q) (ex := ex) (ρ := post) C hfl hkc hcs hmc)
  rw [lg_entry_eq]
  exact K s.heap [] _ hP hD va_S.rf (z_L.entry (by rw [z_en_len]; exact hlen))
/-! calls -/
def z_cs1 (own : String) (R : Room) (sh : List ZE) (i : Nat) (cl : ZC) : Prop := ∀ (p : Program) (l : Launch) (e : Env) (s : State) (m : MethodId) (args : Array Value) (below : List Frame) (meth : Method) (c : Code) (D : va_G) (cA : Nat → ClassId) (q : Nat → Nat) (A : Nat → Prop) (ex : va_W) (nL : Nat) (Q : State → Prop) (cc : ByteArray) (rt : Option FieldType),
  z_Cx p s m args meth c D cA A sh cc own nL rt → ∀ (g pc : Nat) (L : List (Option Value)) (as r : List Value) (S : ZS) (post : Option Value → ZS → Prop), decode cc pc = .ok (bif cl.2.2.1 then .invokestatic i else .invokevirtual i, 3) → as.length = cl.1 → z_cat r ≤ 8 → g + cl.2.1 ≤ R.cells ∧ g + cl.2.1 ≤ R.slots → cl.2.2.2 as S post →
  (∀ v S2, post v S2 → z_W p l e R s m args below meth c D cA q A sh ex nL Q (g + cl.2.1) (pc + 3) L (v.toList ++ r) S2) → z_W p l e R s m args below meth c D cA q A sh ex nL Q g pc L (as.reverse ++ r) S
theorem z_cs0 {own : String} {R : Room} {sh : List ZE} : z_csok own R sh [] := fun i cl h => by cases h
theorem z_cs2 {own : String} {R : Room} {sh : List ZE} {i : Nat} {cl : ZC} {cs : List (Nat × ZC)} (h1 : z_cs1 own R sh i cl) (h2 : z_csok own R sh cs) : z_csok own R sh ((i, cl) :: cs) := by
  intro j cl' h
  rw [List.lookup_cons] at h
  split at h
  · rename_i hj
    cases h
    cases (beq_iff_eq.mp hj)
    exact h1
  · exact h2 j cl' h
section ZCALL
variable {p : Program} {l : Launch} {e : Env} {R : Room} {s : State} {m : MethodId} {args : Array Value} {below : List Frame} {meth : Method} {c : Code} {D : va_G} {cA : Nat → ClassId} {q : Nat → Nat} {A : Nat → Prop} {sh : List ZE} {ex : va_W} {nL : Nat}
/-- behind a call -/
theorem z_go {H : Heap} {locs : List Loc} {ls : Array Slot} {st0 rest : List Value} {g pc mc : Nat} {Q : State → Prop} {S : ZS} {post : Option Value → ZS → Prop} {a : Array Value}
    (hr : va_Run p l e R s m args below meth c H locs g g mc mc (F0 m pc ls st0) rest (z_Q D cA q sh ex post (va_A (z_ws cA q S sh ++ ex) H.size) a) (va_A (z_ws cA q S sh ++ ex) H.size))
    (hD : va_D A (z_ws cA q S sh ++ ex)) (hS : va_S A s.heap H locs) (hA : ∀ x, s.heap.size ≤ x → A x)
    (kk : ∀ (v : Option Value) (S2 : ZS) (H1 : Heap) (locs1 : List Loc), post v S2 → va_P D z_cl (z_ws cA q S2 sh ++ ex) H1 → va_D A (z_ws cA q S2 sh ++ ex) → va_S A s.heap H1 locs1 → W p l e R s m args below meth c H1 locs1 (g + mc) (g + mc) Q (F0 m (pc + 3) ls ((v.map (z_em q)).toList ++ rest))) :
    W p l e R s m args below meth c H locs g g Q (F0 m pc ls st0) := by
  have hsub : ∀ x, va_A (z_ws cA q S sh ++ ex) H.size x → A x := by
    intro x hx
    rcases hx with ⟨k, e1, hk⟩ | hx
    · exact hD.2 k _ hk
    · exact hA x (Nat.le_trans hS.1 hx)
  intro T hT X
  obtain ⟨v, st₀, t, T', L, h0, X', hL, e1, e2, ⟨⟨r, S2, hv, hp, hb⟩, hz, hk⟩, st⟩ := hr T hT X
  cases hv
  rw [h0] at hz hk
  obtain ⟨t2, a1, b1⟩ := kk r S2 T'.heap (locs ++ L) hp (by rw [e1]; exact hb) (z_D hD)
    ⟨Nat.le_trans hS.1 (by rw [e1]; exact hz), fun q h1 h2 => by rw [e1, hk q (Nat.lt_of_lt_of_le h1 hS.1) (fun z => h2 (hsub q z))]; exact hS.2.1 q h1 h2, fun q hq => by
      rcases List.mem_append.mp hq with h | h
      · exact hS.2.2 q h
      · exact hsub _ (hL q h)⟩ T' rfl X'
  exact ⟨t2, st t2 a1, b1⟩
end ZCALL
theorem z_gi {y : MethodName} {cc : ByteArray} {nL : Nat} {rt : Option FieldType} (h : Cond.code y cc nL rt ∈ lw_g) : GoodIn lw_g (Cond.code y cc nL rt :: lw_g) := by
  have hg : ∀ w ∈ lw_g, w ∈ lw_g ∧ ((w.onTables && w.keeps) = true ∨ ∃ ty, w = .arrayClass ty) := fun w hw => ⟨hw, good_of_word (lw_g_good hw)⟩
  intro w hw
  rcases List.mem_cons.mp hw with rfl | hw
  · exact hg _ h
  · exact hg w hw
theorem z_gi2 {y : MethodName} {cc : ByteArray} {nL : Nat} {rt : Option FieldType} {ws : List Cond} (h : Cond.code y cc nL rt ∈ lw_g) (hw : ∀ w ∈ ws, w ∈ lw_g) : GoodIn lw_g (ws ++ (Cond.code y cc nL rt :: lw_g)) := by
  intro w hx
  rcases List.mem_append.mp hx with hx | hx
  · exact ⟨hw w hx, good_of_word (lw_g_good (hw w hx))⟩
  · exact z_gi h w hx
/-- what is asked of a static method of the same class, to be called -/
theorem z_csS {own : String} {R rm : Room} {sh : List ZE} {y : MethodName} {cc' : ByteArray} {nL' : Nat} {rt' : Option FieldType} {mc n i : Nat} {wp : ZW} (h : z_Ok sh y cc' nL' rt' rm mc wp)
    (h1 : Cond.methodLink own i y ∈ lw_g) (h2 : Cond.static y ∈ lw_g) (h3 : Cond.initialized y.cls ∈ lw_g) (h4 : Cond.code y cc' nL' rt' ∈ lw_g) (hrc : rm.cells = mc) (hrs : rm.slots = mc)
    (hd : y.cls ≠ "java/lang/invoke/MethodHandle" ∧ y.cls ≠ "java/lang/invoke/VarHandle" ∧ (parseMethodDescriptor y.desc).map (fun d => d.parameters.length) = some n) (hR : rm.frames + 1 ≤ R.frames ∧ 8 + (nL' + 11) + rm.locals ≤ R.locals) : z_cs1 own R sh i (n, mc, true, wp) := by
  intro p l e s m args below meth c D cA q A ex nL Q cc rt C g pc L as r S post hdec hlen hcat hroom hw hk H locs ls hP hD hS hL
  obtain ⟨hx, hb, hml, hr, hlocks, hown, hts, hK, hA⟩ := id C
  have cb : CallB R s args own i y cc' nL' rt' (Cond.code y cc' nL' rt' :: lw_g) rm mc mc n := callB_of n hts (z_gi h4) rfl hrc hrs (hts _ h3) (hts _ h1) hd hR
  refine z_go (va_runS (As := as.map (z_em q)) (rest := r.map (z_em q)) ⟨hx, hb, hml, hown, hts⟩ (h l as S post hw D cA q ex H.size) ⟨cb, hts _ h2⟩ ⟨z_Pre_blind, fun U hU hW => ⟨rfl, by rw [hU], by rw [hU]; exact hP, hK.warm hW, hD.weaken (fun _ _ _ _ => trivial)⟩⟩ rfl (by rw [List.length_map]; exact hlen) hL.1 (by simp) (lv_room (by rw [z_cat_em]; exact hcat)) hdec hroom) hD hS hA (fun v S2 H1 locs1 hp hP1 hD1 hS1 => ?_)
  have := hk v S2 hp H1 locs1 ls hP1 hD1 hS1 hL
  rw [List.map_append] at this
  cases v <;> exact this
/-- a static method of the nest's host -/
theorem z_csN {own host : String} {R rm : Room} {sh : List ZE} {y : MethodName} {cc' : ByteArray} {nL' : Nat} {rt' : Option FieldType} {mc n i : Nat} {wp : ZW} (h : z_Ok sh y cc' nL' rt' rm mc wp)
    (h1 : Cond.methodLinkNest own i y host ∈ z_nw) (h2 : Cond.static y ∈ lw_g) (h3 : Cond.initialized y.cls ∈ lw_g) (h4 : Cond.code y cc' nL' rt' ∈ lw_g) (hrc : rm.cells = mc) (hrs : rm.slots = mc)
    (hd : y.cls ≠ "java/lang/invoke/MethodHandle" ∧ y.cls ≠ "java/lang/invoke/VarHandle" ∧ (parseMethodDescriptor y.desc).map (fun d => d.parameters.length) = some n) (hR : rm.frames + 1 ≤ R.frames ∧ 8 + (nL' + 11) + rm.locals ≤ R.locals) : z_cs1 own R sh i (n, mc, true, wp) := by
  intro p l e s m args below meth c D cA q A ex nL Q cc rt C g pc L as r S post hdec hlen hcat hroom hw hk H locs ls hP hD hS hL
  obtain ⟨hx, hb, hml, hr, hlocks, hown, hts, hK, hA⟩ := id C
  have cb : va_CN R s args own i y host cc' nL' rt' (Cond.code y cc' nL' rt' :: lw_g) rm mc mc n := va_cnB n hts (z_gi h4) rfl hrc hrs (hK.2.2 _ h1) (hts _ h3) hd hR
  refine z_go (va_runSN (As := as.map (z_em q)) (rest := r.map (z_em q)) ⟨hx, hb, hml, hown, hts⟩ (h l as S post hw D cA q ex H.size) ⟨cb, hts _ h2, trivial⟩ ⟨z_Pre_blind, fun U hU hW => ⟨rfl, by rw [hU], by rw [hU]; exact hP, hK.warm hW, hD.weaken (fun _ _ _ _ => trivial)⟩⟩ rfl (by rw [List.length_map]; exact hlen) hL.1 (by simp) (lv_room (by rw [z_cat_em]; exact hcat)) hdec hroom) hD hS hA (fun v S2 H1 locs1 hp hP1 hD1 hS1 => ?_)
  have := hk v S2 hp H1 locs1 ls hP1 hD1 hS1 hL
  rw [List.map_append] at this
  cases v <;> exact this
/-- the receiver of a call: its place holds an object of the class -/
def z_rec (sh : List ZE) (wp : ZW) (ci : Nat) : Prop := ∀ as S post, wp as S post → ∃ a as' fs, as = .ref a :: as' ∧ sh[a]? = some (.inr (ci, fs))
/-- an instance method of the receiver's class -/
theorem z_csV {own C : String} {T : u_T} {N ci : Nat} {R rm : Room} {sh : List ZE} {y : MethodName} {cc' : ByteArray} {nL' : Nat} {rt' : Option FieldType} {mc n i : Nat} {wp : ZW} (h : z_Ok sh y cc' nL' rt' rm mc wp) (hrec : z_rec sh wp ci) (hcl : z_cl[ci]? = some (C, T, N))
    (h1 : Cond.methodLink own i y ∈ lw_g) (h2 : Cond.instanceMethod y ∈ lw_g) (h3 : Cond.selects C y y ∈ lw_g) (h4 : Cond.code y cc' nL' rt' ∈ lw_g) (h5 : Cond.initialized y.cls ∈ lw_g) (hrc : rm.cells = mc) (hrs : rm.slots = mc)
    (hd : y.cls ≠ "java/lang/invoke/MethodHandle" ∧ y.cls ≠ "java/lang/invoke/VarHandle" ∧ (parseMethodDescriptor y.desc).map (fun d => d.parameters.length) = some n) (hR : rm.frames + 1 ≤ R.frames ∧ 8 + (nL' + 11) + rm.locals ≤ R.locals) : z_cs1 own R sh i (n + 1, mc, false, wp) := by
  intro p l e s m args below meth c D cA q A ex nL Q cc rt Cx g pc L as r S post hdec hlen hcat hroom hw hk H locs ls hP hD hS hL
  obtain ⟨hx, hb, hml, hr, hlocks, hown, hts, hK, hA⟩ := id Cx
  obtain ⟨a, as', fs, rfl, hsh⟩ := hrec as S post hw
  have cb : CallB R s args own i y cc' nL' rt' (Cond.code y cc' nL' rt' :: lw_g) rm mc mc n := callB_of n hts (z_gi h4) rfl hrc hrs (hts _ h5) (hts _ h1) hd hR
  have hm := h l _ S post hw D cA q ex H.size
  refine z_go (va_runV (C := C) (b := q a) (As := as'.map (z_em q)) (rest := r.map (z_em q)) ⟨hx, hb, hml, hown, hts⟩ hm ⟨cb, hts _ h2, hts _ h3⟩ ⟨z_Pre_blind, va_recv hK.va hP hcl (z_at hsh), fun U hU hW => ⟨rfl, by rw [hU], by rw [hU]; exact hP, hK.warm hW, hD.weaken (fun _ _ _ _ => trivial)⟩⟩ rfl (by rw [List.length_map]; simpa using hlen) hL.1 (by simp [z_em]) (lv_room (by rw [z_cat_em]; exact hcat)) hdec hroom) hD hS hA (fun v S2 H1 locs1 hp hP1 hD1 hS1 => ?_)
  have := hk v S2 hp H1 locs1 ls hP1 hD1 hS1 hL
  rw [List.map_append] at this
  cases v <;> exact this
/-- an inherited or overriding method: x as it is spelt, found at its owner, y as the receiver's class selects it -/
theorem z_csU {own C owner : String} {T : u_T} {N ci : Nat} {R rm : Room} {sh : List ZE} {x y : MethodName} {cc' : ByteArray} {nL' : Nat} {rt' : Option FieldType} {mc n i : Nat} {wp : ZW} (h : z_Ok sh y cc' nL' rt' rm mc wp) (hrec : z_rec sh wp ci) (hcl : z_cl[ci]? = some (C, T, N))
    (hdecl : Cond.declares ⟨owner, x.name, x.desc⟩ ∈ z_nw ∨ (Cond.instanceMethod ⟨owner, x.name, x.desc⟩ ∈ lw_g ∧ ∃ b m0 r0, Cond.code ⟨owner, x.name, x.desc⟩ b m0 r0 ∈ lw_g))
    (h1 : Cond.methodLink own i x ∈ lw_g) (h2 : Cond.instanceMethod y ∈ lw_g) (h3 : Cond.selects C x y ∈ lw_g) (h4 : Cond.code y cc' nL' rt' ∈ lw_g) (h5 : Cond.initialized y.cls ∈ lw_g) (h6 : Cond.sameMethod x.cls owner x.name x.desc ∈ lw_g) (hrc : rm.cells = mc) (hrs : rm.slots = mc)
    (hd : owner ≠ "java/lang/invoke/MethodHandle" ∧ owner ≠ "java/lang/invoke/VarHandle" ∧ (parseMethodDescriptor x.desc).map (fun d => d.parameters.length) = some n) (hR : rm.frames + 1 ≤ R.frames ∧ 8 + (nL' + 11) + rm.locals ≤ R.locals) : z_cs1 own R sh i (n + 1, mc, false, wp) := by
  intro p l e s m args below meth c D cA q A ex nL Q cc rt Cx g pc L as r S post hdec hlen hcat hroom hw hk H locs ls hP hD hS hL
  obtain ⟨hx, hb, hml, hr, hlocks, hown, hts, hK, hA⟩ := id Cx
  obtain ⟨a, as', fs, rfl, hsh⟩ := hrec as S post hw
  have hdl : va_Decl s ⟨owner, x.name, x.desc⟩ := by
    rcases hdecl with hz | ⟨hz, b, m0, r0, hz2⟩
    · exact va_Decl.abs (hK.2.2 _ hz)
    · exact va_Decl.of (hts _ hz) (hts _ hz2)
  have cb : va_CU R s args own C owner i x y cc' nL' rt' (Cond.code y cc' nL' rt' :: lw_g) rm mc mc n :=
    ⟨⟨hrc, hrs, hR.1, hR.2, pay_in hts (z_gi h4), List.mem_cons_self⟩, hts _ h4, hts _ h5, ⟨hd.1, hd.2.1⟩, fun sig hs => by have h9 := hd.2.2; rw [hs] at h9; exact (Option.some.inj h9).symm, hts _ h1, hts _ h6, hdl, hts _ h3, hts _ h2⟩
  have hm := h l _ S post hw D cA q ex H.size
  refine z_go (va_runU (C := C) (b := q a) (As := as'.map (z_em q)) (rest := r.map (z_em q)) ⟨hx, hb, hml, hown, hts⟩ hm cb ⟨z_Pre_blind, va_recv hK.va hP hcl (z_at hsh), fun U hU hW => ⟨rfl, by rw [hU], by rw [hU]; exact hP, hK.warm hW, hD.weaken (fun _ _ _ _ => trivial)⟩⟩ rfl (by rw [List.length_map]; simpa using hlen) hL.1 (by simp [z_em]) (lv_room (by rw [z_cat_em]; exact hcat)) hdec hroom) hD hS hA (fun v S2 H1 locs1 hp hP1 hD1 hS1 => ?_)
  have := hk v S2 hp H1 locs1 ls hP1 hD1 hS1 hL
  rw [List.map_append] at this
  cases v <;> exact this
/-- one of two -/
theorem z_csO {own : String} {R : Room} {sh : List ZE} {n mc i : Nat} {b : Bool} {w1 w2 : ZW} (h1 : z_cs1 own R sh i (n, mc, b, w1)) (h2 : z_cs1 own R sh i (n, mc, b, w2)) : z_cs1 own R sh i (n, mc, b, fun as S k => w1 as S k ∨ w2 as S k) := by
  intro p l e s m args below meth c D cA q A ex nL Q cc rt Cx g pc L as r S post hdec hlen hcat hroom hw hk
  rcases hw with hw | hw
  · exact h1 p l e s m args below meth c D cA q A ex nL Q cc rt Cx g pc L as r S post hdec hlen hcat hroom hw hk
  · exact h2 p l e s m args below meth c D cA q A ex nL Q cc rt Cx g pc L as r S post hdec hlen hcat hroom hw hk
/-- Math.min, Math.max -/
def wp_min : ZW := fun as S k => match as with
  | [.int x, .int y] => k (some (.int (if y < x then y else x))) S
  | _ => False
def wp_max : ZW := fun as S k => match as with
  | [.int x, .int y] => k (some (.int (if x < y then y else x))) S
  | _ => False

/-- a private method of a class that others extend: whatever the receiver's class, it is the one -/
theorem z_selp {y : MethodName} {C : String} {s : State} {args : Array Value} {n : Nat} (hy : y.cls ≠ "java/lang/invoke/MethodHandle" ∧ y.cls ≠ "java/lang/invoke/VarHandle") (hins : (Cond.instantiable C n).before args s = true) (hpriv : (Cond.privateMethod y).before args s = true) (hinst : (Cond.instanceMethod y).before args s = true)
    (hsame : (Cond.sameMethod y.cls y.cls y.name y.desc).before args s = true) : (Cond.selects C y y).before args s = true := by
  obtain ⟨c, k, hc, hk, -, hniab, -, -⟩ := Cond.instantiable_spec hins
  obtain ⟨mk, methM, hnamed, hmethM, -, -⟩ := Cond.instanceMethod_spec hinst
  have hfound : s.methodFound? y.cls y.name y.desc = some mk := State.methodFound?_of_named hnamed hy
  have hsel : selectMethod {} s.vm c mk = .method mk := selectMethod_private hmethM (Cond.privateMethod_at hpriv mk methM hnamed hmethM)
  obtain ⟨cn, ck, r1, hcn, hck, hni, -, -⟩ := Cond.sameMethod_found hsame
  have hcls : mk.cls = cn := Option.some.inj ((findClass_of_methodNamed hnamed).symm.trans hcn)
  simp only [Cond.before, Cond.holds, Cond.value, hc, hfound, hnamed, hsel, hcls, hck]
  simp; exact hni
theorem z_xs_ok {s : State} {args : Array Value} (h : ∀ w ∈ lw_tbl, w.before args s = true) : ∀ w ∈ z_xs, w.before args s = true := by
  intro w hw
  simp only [z_xs, List.mem_cons, List.not_mem_nil, or_false] at hw
  rcases hw with rfl | rfl | rfl | rfl
  · exact z_selp (n := 8) ⟨by decide, by decide⟩ (h _ (List.mem_of_getElem? (i := 65) (by decide +kernel))) (h _ (List.mem_of_getElem? (i := 220) (by decide +kernel))) (h _ (List.mem_of_getElem? (i := 221) (by decide +kernel))) (h _ (List.mem_of_getElem? (i := 1100) (by decide +kernel)))
  · exact z_selp (n := 6) ⟨by decide, by decide⟩ (h _ (List.mem_of_getElem? (i := 100) (by decide +kernel))) (h _ (List.mem_of_getElem? (i := 220) (by decide +kernel))) (h _ (List.mem_of_getElem? (i := 221) (by decide +kernel))) (h _ (List.mem_of_getElem? (i := 1100) (by decide +kernel)))
  · exact z_selp (n := 8) ⟨by decide, by decide⟩ (h _ (List.mem_of_getElem? (i := 65) (by decide +kernel))) (h _ (List.mem_of_getElem? (i := 224) (by decide +kernel))) (h _ (List.mem_of_getElem? (i := 225) (by decide +kernel))) (h _ (List.mem_of_getElem? (i := 1101) (by decide +kernel)))
  · exact z_selp (n := 6) ⟨by decide, by decide⟩ (h _ (List.mem_of_getElem? (i := 100) (by decide +kernel))) (h _ (List.mem_of_getElem? (i := 224) (by decide +kernel))) (h _ (List.mem_of_getElem? (i := 225) (by decide +kernel))) (h _ (List.mem_of_getElem? (i := 1101) (by decide +kernel)))

