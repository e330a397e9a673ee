/-! ===== the evaluator's rows, for rewriting: every argument a datum, no function but the continuations ===== -/
def z_gt : List (Option Value) → Nat → Option Value
  | [], _ => none
  | a :: _, 0 => a
  | _ :: t, i + 1 => z_gt t i
theorem z_gt_eq : ∀ (L : List (Option Value)) (i : Nat), z_gt L i = (L[i]?).join
  | [], i => by simp [z_gt]
  | a :: t, 0 => by simp [z_gt]
  | a :: t, i + 1 => by simp [z_gt, z_gt_eq t i]
theorem z_gt_0 {a : Option Value} {t : List (Option Value)} : z_gt (a :: t) 0 = a := rfl
theorem z_gt_s {a : Option Value} {t : List (Option Value)} {i : Nat} : z_gt (a :: t) (i + 1) = z_gt t i := rfl
def z_sel (b : Bool) (K F : ZK) (g pc : Nat) (L : List (Option Value)) (st : List Value) (S : ZS) : Prop := bif b then K g pc L st S else F g pc L st S
def z_lI (go : ZK) (g pc : Nat) (L : List (Option Value)) (st : List Value) (S : ZS) : Option Value → Prop
  | some (.int x) => go g pc L (.int x :: st) S
  | _ => False
def z_lJ (go : ZK) (g pc : Nat) (L : List (Option Value)) (st : List Value) (S : ZS) : Option Value → Prop
  | some (.long x) => go g pc L (.long x :: st) S
  | _ => False
def z_lR (go : ZK) (g pc : Nat) (L : List (Option Value)) (st : List Value) (S : ZS) : Option Value → Prop
  | some (.ref x) => go g pc L (.ref x :: st) S
  | some .null => go g pc L (.null :: st) S
  | _ => False
def z_lC (go : ZK) (g pc : Nat) (L : List (Option Value)) (st : List Value) (S : ZS) (i nL : Nat) (n : Int) : Option Value → Prop
  | some (.int x) => i < nL ∧ go g pc (z_st L i (.int (x + Int32.ofInt n))) st S
  | _ => False
def z_lK (go : ZK) (g pc : Nat) (L : List (Option Value)) (st : List Value) (S : ZS) : Option Int32 → Prop
  | some x => go g pc L (.int x :: st) S
  | _ => False
def z_lM (go : ZK) (g pc : Nat) (L : List (Option Value)) (st : List Value) (S : ZS) : Option Int64 → Prop
  | some x => go g pc L (.long x :: st) S
  | _ => False
def z_gtv (L : List (Option Value)) (i : Nat) : Option Value := (L[i]?).join
theorem z_lv_I {go : ZK} {g pc : Nat} {L : List (Option Value)} {st : List Value} {S : ZS} {i : Nat} : z_lv L i (z_isI (fun x => go g pc L (.int x :: st) S)) = z_lI go g pc L st S (z_gt L i) := by
  rw [z_gt_eq]; unfold z_lv
  cases L[i]? with
  | none => rfl
  | some a =>
    cases a with
    | none => rfl
    | some v => cases v <;> rfl
theorem z_lv_J {go : ZK} {g pc : Nat} {L : List (Option Value)} {st : List Value} {S : ZS} {i : Nat} : z_lv L i (z_isJ (fun x => go g pc L (.long x :: st) S)) = z_lJ go g pc L st S (z_gt L i) := by
  rw [z_gt_eq]; unfold z_lv
  cases L[i]? with
  | none => rfl
  | some a =>
    cases a with
    | none => rfl
    | some v => cases v <;> rfl
theorem z_lv_R {go : ZK} {g pc : Nat} {L : List (Option Value)} {st : List Value} {S : ZS} {i : Nat} : z_lv L i (z_isR (fun x => go g pc L (x :: st) S)) = z_lR go g pc L st S (z_gt L i) := by
  rw [z_gt_eq]; unfold z_lv
  cases L[i]? with
  | none => rfl
  | some a =>
    cases a with
    | none => rfl
    | some v => cases v <;> rfl
theorem z_lv_C {go : ZK} {g pc : Nat} {L : List (Option Value)} {st : List Value} {S : ZS} {i nL : Nat} {n : Int} : z_lv L i (z_isI (fun x => i < nL ∧ go g pc (z_st L i (.int (x + Int32.ofInt n))) st S)) = z_lC go g pc L st S i nL n (z_gt L i) := by
  rw [z_gt_eq]; unfold z_lv
  cases L[i]? with
  | none => rfl
  | some a =>
    cases a with
    | none => rfl
    | some v => cases v <;> rfl
def z_fl (sh : List ZE) (fl : Nat → Nat → Option Nat) (a i : Nat) : Option (Nat × Nat × Option Nat) := match sh[a]? with
  | some (.inr x) => match fl x.1 i with
    | some j => match x.2[j]? with
      | some f => some (x.1, j, f)
      | none => none
    | none => none
  | _ => none
theorem z_fl_fld {sh : List ZE} {fl : Nat → Nat → Option Nat} {a i : Nat} {k : Nat → Nat → Option Nat → Prop} {x : Nat × Nat × Option Nat} (h : z_fl sh fl a i = some x) : z_fld sh fl a i k = k x.1 x.2.1 x.2.2 := by
  unfold z_fl at h
  unfold z_fld
  split at h
  · rename_i y hy
    rw [hy]
    dsimp only
    split at h
    · rename_i j hj
      rw [hj]
      dsimp only
      split at h
      · rename_i f hf
        rw [hf]
        cases h
        rfl
      · cases h
    · cases h
  · cases h
def z_ar (sh : List ZE) (a : Nat) : Option (Nat × Nat × Nat) := match sh[a]? with
  | some (.inl x) => some x
  | _ => none
theorem z_ar_ari {sh : List ZE} {t a n b : Nat} {k : Nat → Nat → Prop} (h : z_ar sh a = some (t, n, b)) : z_ari sh t a k = k n b := by
  unfold z_ar at h
  unfold z_ari
  split at h
  · rename_i x hx
    rw [hx]
    cases h
    exact propext ⟨fun z => z.2, fun z => ⟨rfl, z⟩⟩
  · cases h
theorem z_ar_len {sh : List ZE} {t a n b : Nat} {k : Nat → Prop} (h : z_ar sh a = some (t, n, b)) : z_alen sh a k = k n := by
  unfold z_ar at h
  unfold z_alen
  split at h
  · rename_i x hx
    rw [hx]
    cases h
    rfl
  · cases h
def z_kont (go : ZK) (g pc : Nat) (L : List (Option Value)) (st : List Value) (v : Option Value) (S2 : ZS) : Prop := go g pc L (v.toList ++ st) S2
def z_cal (go : ZK) (wp : ZW) (m : Nat) (g pc : Nat) (L : List (Option Value)) (S : ZS) : Nat → List Value → List Value → Prop
  | 0, acc, st => z_cat st ≤ 8 ∧ wp acc S (z_kont go (g + m) (pc + 3) L st)
  | n + 1, acc, v :: st => z_cal go wp m g pc L S n (v :: acc) st
  | _ + 1, _, [] => False
theorem z_cal_eq {go : ZK} {wp : ZW} {m g pc : Nat} {L : List (Option Value)} {S : ZS} : ∀ (n : Nat) (acc st : List Value), z_args n acc st (fun as r => z_cat r ≤ 8 ∧ wp as S (fun v S2 => go (g + m) (pc + 3) L (v.toList ++ r) S2)) = z_cal go wp m g pc L S n acc st
  | 0, acc, st => rfl
  | n + 1, acc, v :: st => z_cal_eq n (v :: acc) st
  | _ + 1, _, [] => rfl
theorem z_cal_0 {go : ZK} {wp : ZW} {m g pc : Nat} {L : List (Option Value)} {S : ZS} {acc st : List Value} : z_cal go wp m g pc L S 0 acc st = (z_cat st ≤ 8 ∧ wp acc S (z_kont go (g + m) (pc + 3) L st)) := rfl
theorem z_cal_s {go : ZK} {wp : ZW} {m g pc : Nat} {L : List (Option Value)} {S : ZS} {n : Nat} {acc st : List Value} {v : Value} : z_cal go wp m g pc L S (n + 1) acc (v :: st) = z_cal go wp m g pc L S n (v :: acc) st := rfl
def z_aI (go : ZK) (t : Nat) (g pc : Nat) (L : List (Option Value)) (st : List Value) (S : ZS) (a : Nat) (i : Int32) : Option (Nat × Nat × Nat) → Prop
  | some x => x.1 = t ∧ vp_in i x.2.1 ∧ go g pc L (.int (S.1 a i.toNatClampNeg) :: st) S
  | none => False
def z_aJ (go : ZK) (g pc : Nat) (L : List (Option Value)) (st : List Value) (S : ZS) (a : Nat) (i : Int32) : Option (Nat × Nat × Nat) → Prop
  | some x => x.1 = 1 ∧ vp_in i x.2.1 ∧ go g pc L (.long (S.2 a i.toNatClampNeg) :: st) S
  | none => False
def z_aR (go : ZK) (g pc : Nat) (L : List (Option Value)) (st : List Value) (S : ZS) (a : Nat) (i : Int32) : Option (Nat × Nat × Nat) → Prop
  | some x => x.1 = 3 ∧ vp_in i x.2.1 ∧ go g pc L (.ref (x.2.2 + i.toNatClampNeg) :: st) S
  | none => False
def z_asI (go : ZK) (t : Nat) (g pc : Nat) (L : List (Option Value)) (st : List Value) (S : ZS) (a : Nat) (i x : Int32) : Option (Nat × Nat × Nat) → Prop
  | some y => y.1 = t ∧ vp_in i y.2.1 ∧ go g pc L st (z_u S.1 a i.toNatClampNeg x, S.2)
  | none => False
def z_asJ (go : ZK) (g pc : Nat) (L : List (Option Value)) (st : List Value) (S : ZS) (a : Nat) (i : Int32) (x : Int64) : Option (Nat × Nat × Nat) → Prop
  | some y => y.1 = 1 ∧ vp_in i y.2.1 ∧ go g pc L st (S.1, z_u S.2 a i.toNatClampNeg x)
  | none => False
def z_al (go : ZK) (g pc : Nat) (L : List (Option Value)) (st : List Value) (S : ZS) : Option (Nat × Nat × Nat) → Prop
  | some y => go g pc L (.int (Int32.ofNat y.2.1) :: st) S
  | none => False
def z_gf (go : ZK) (g pc : Nat) (L : List (Option Value)) (st : List Value) (S : ZS) (a : Nat) : Option (Nat × Nat × Option Nat) → Prop
  | some (_, j, none) => go g pc L (.int (S.1 a j) :: st) S
  | some (_, _, some p) => go g pc L (.ref p :: st) S
  | none => False
def z_pf (go : ZK) (g pc : Nat) (L : List (Option Value)) (st : List Value) (S : ZS) (a : Nat) (x : Int32) : Option (Nat × Nat × Option Nat) → Prop
  | some (ci, j, none) => z_int ci j = true ∧ go g pc L st (z_u S.1 a j x, S.2)
  | some (ci, j, some _) => z_int ci j = true ∧ False
  | none => False
def z_iv (go : ZK) (mc g pc : Nat) (L : List (Option Value)) (st : List Value) (S : ZS) (stop : Prop) (b : Bool) : Option ZC → Prop
  | some c => c.2.2.1 = b ∧ g + c.2.1 ≤ mc ∧ z_cal go c.2.2.2 c.2.1 g pc L S c.1 [] st
  | none => stop
theorem z_ari_I {sh : List ZE} {go : ZK} {t g pc a : Nat} {L : List (Option Value)} {st : List Value} {S : ZS} {i : Int32} : z_ari sh t a (fun n _ => vp_in i n ∧ go g pc L (.int (S.1 a i.toNatClampNeg) :: st) S) = z_aI go t g pc L st S a i (z_ar sh a) := by
  unfold z_ari z_ar; cases sh[a]? with
  | none => rfl
  | some x => cases x <;> rfl
theorem z_ari_J {sh : List ZE} {go : ZK} {g pc a : Nat} {L : List (Option Value)} {st : List Value} {S : ZS} {i : Int32} : z_ari sh 1 a (fun n _ => vp_in i n ∧ go g pc L (.long (S.2 a i.toNatClampNeg) :: st) S) = z_aJ go g pc L st S a i (z_ar sh a) := by
  unfold z_ari z_ar; cases sh[a]? with
  | none => rfl
  | some x => cases x <;> rfl
theorem z_ari_R {sh : List ZE} {go : ZK} {g pc a : Nat} {L : List (Option Value)} {st : List Value} {S : ZS} {i : Int32} : z_ari sh 3 a (fun n b => vp_in i n ∧ go g pc L (.ref (b + i.toNatClampNeg) :: st) S) = z_aR go g pc L st S a i (z_ar sh a) := by
  unfold z_ari z_ar; cases sh[a]? with
  | none => rfl
  | some x => cases x <;> rfl
theorem z_ari_sI {sh : List ZE} {go : ZK} {t g pc a : Nat} {L : List (Option Value)} {st : List Value} {S : ZS} {i x : Int32} : z_ari sh t a (fun n _ => vp_in i n ∧ go g pc L st (z_u S.1 a i.toNatClampNeg x, S.2)) = z_asI go t g pc L st S a i x (z_ar sh a) := by
  unfold z_ari z_ar; cases sh[a]? with
  | none => rfl
  | some x => cases x <;> rfl
theorem z_ari_sJ {sh : List ZE} {go : ZK} {g pc a : Nat} {L : List (Option Value)} {st : List Value} {S : ZS} {i : Int32} {x : Int64} : z_ari sh 1 a (fun n _ => vp_in i n ∧ go g pc L st (S.1, z_u S.2 a i.toNatClampNeg x)) = z_asJ go g pc L st S a i x (z_ar sh a) := by
  unfold z_ari z_ar; cases sh[a]? with
  | none => rfl
  | some x => cases x <;> rfl
theorem z_alen_e {sh : List ZE} {go : ZK} {g pc a : Nat} {L : List (Option Value)} {st : List Value} {S : ZS} : z_alen sh a (fun n => go g pc L (.int (Int32.ofNat n) :: st) S) = z_al go g pc L st S (z_ar sh a) := by
  unfold z_alen z_ar; cases sh[a]? with
  | none => rfl
  | some x => cases x <;> rfl
theorem z_fld_g {sh : List ZE} {fl : Nat → Nat → Option Nat} {go : ZK} {g pc a i : Nat} {L : List (Option Value)} {st : List Value} {S : ZS} : z_fld sh fl a i (fun _ j => z_getk S a j (fun v => go g pc L (v :: st) S)) = z_gf go g pc L st S a (z_fl sh fl a i) := by
  unfold z_fld z_fl; cases sh[a]? with
  | none => rfl
  | some x =>
    cases x with
    | inl y => rfl
    | inr y =>
      dsimp only
      cases fl y.1 i with
      | none => rfl
      | some j =>
        dsimp only
        cases y.2[j]? with
        | none => rfl
        | some f => cases f <;> rfl
theorem z_fld_p {sh : List ZE} {fl : Nat → Nat → Option Nat} {go : ZK} {g pc a i : Nat} {L : List (Option Value)} {st : List Value} {S : ZS} {x : Int32} : z_fld sh fl a i (fun ci j f => z_int ci j = true ∧ z_putk (go g pc L st (z_u S.1 a j x, S.2)) f) = z_pf go g pc L st S a x (z_fl sh fl a i) := by
  unfold z_fld z_fl; cases sh[a]? with
  | none => rfl
  | some x =>
    cases x with
    | inl y => rfl
    | inr y =>
      dsimp only
      cases fl y.1 i with
      | none => rfl
      | some j =>
        dsimp only
        cases y.2[j]? with
        | none => rfl
        | some f => cases f <;> rfl
theorem z_cls_iv {go : ZK} {cs : List (Nat × ZC)} {mc g pc i : Nat} {L : List (Option Value)} {st : List Value} {S : ZS} {stop : Prop} {b : Bool} : z_cls cs i stop (fun c => c.2.2.1 = b ∧ g + c.2.1 ≤ mc ∧ z_args c.1 [] st (fun as r => z_cat r ≤ 8 ∧ c.2.2.2 as S (fun v S2 => go (g + c.2.1) (pc + 3) L (v.toList ++ r) S2))) = z_iv go mc g pc L st S stop b (cs.lookup i) := by
  unfold z_cls; cases cs.lookup i with
  | none => rfl
  | some c => simp only [z_cal_eq]; rfl
def z_lk2 (go : ZK) (g pc : Nat) (L : List (Option Value)) (st : List Value) (S : ZS) (x : Int32) (d : Int) : List (Int × Int) → Prop
  | [] => 0 ≤ (pc : Int) + d ∧ go g ((pc : Int) + d).toNat L st S
  | p :: t => (x.toInt = p.1 → 0 ≤ (pc : Int) + p.2 ∧ go g ((pc : Int) + p.2).toNat L st S) ∧ (¬ x.toInt = p.1 → z_lk2 go g pc L st S x d t)
theorem z_lk2_eq {go : ZK} {g pc : Nat} {L : List (Option Value)} {st : List Value} {S : ZS} {x : Int32} {d : Int} : ∀ ps, z_lks (fun t => go g t L st S) pc x d ps = z_lk2 go g pc L st S x d ps
  | [] => rfl
  | p :: t => by unfold z_lks z_lk2; rw [z_lk2_eq t]
def z_tb2 (go : ZK) (g pc : Nat) (L : List (Option Value)) (st : List Value) (S : ZS) (x : Int32) : Int → List Int → Prop
  | _, [] => True
  | lo, o :: t => (x.toInt = lo → 0 ≤ (pc : Int) + o ∧ go g ((pc : Int) + o).toNat L st S) ∧ z_tb2 go g pc L st S x (lo + 1) t
theorem z_tb2_eq {go : ZK} {g pc : Nat} {L : List (Option Value)} {st : List Value} {S : ZS} {x : Int32} : ∀ os lo, z_tab (fun t => go g t L st S) pc x lo os = z_tb2 go g pc L st S x lo os
  | [], lo => rfl
  | o :: t, lo => by unfold z_tab z_tb2; rw [z_tb2_eq t]
section ZR
variable {nL : Nat} {sh : List ZE} {fl : Nat → Nat → Option Nat} {cs : List (Nat × ZC)} {kc : Nat → Option Int32} {kl : Nat → Option Int64} {rt : Option FieldType} {mc : Nat} {ρ : Option Value → ZS → Prop} {stop : Prop} {go K F : ZK} {stp : Nat → Bool} {g pc n : Nat} {L : List (Option Value)} {st : List Value} {S : ZS}
theorem ze_s {cc : ByteArray} : z_ev cc nL sh fl cs kc kl rt mc ρ K stp (n + 1) g pc L st S = z_evx nL sh fl cs kc kl rt mc ρ K (z_step K stp (z_ev cc nL sh fl cs kc kl rt mc ρ K stp n)) (decode cc pc) g pc L st S := rfl
theorem ze_0 {cc : ByteArray} : z_ev cc nL sh fl cs kc kl rt mc ρ K stp 0 g pc L st S = K g pc L st S := rfl
theorem ze_ok {ε : Type} {ins : Instr} {len : Nat} : z_evx (ε := ε) nL sh fl cs kc kl rt mc ρ K go (.ok (ins, len)) g pc L st S = (z_okl ins len = true ∧ z_do nL sh fl cs kc kl rt mc ρ (K g pc L st S) go ins g pc L st S) := rfl
theorem zt_s : z_step K stp F g pc L st S = z_sel (stp pc) K F g pc L st S := rfl
theorem zt_t : z_sel true K F g pc L st S = K g pc L st S := rfl
theorem zt_f : z_sel false K F g pc L st S = F g pc L st S := rfl
theorem zk_s {v : Option Value} {S2 : ZS} : z_kont go g pc L st v S2 = go g pc L (v.toList ++ st) S2 := rfl
theorem zq_iconst {i : Int} : z_do nL sh fl cs kc kl rt mc ρ stop go (.iconst i) g pc L (st) S = (go g (pc + 1) L (.int (Int32.ofInt i) :: st) S) := rfl
theorem zq_bipush {i : Int} : z_do nL sh fl cs kc kl rt mc ρ stop go (.bipush i) g pc L (st) S = (go g (pc + 2) L (.int (Int8.ofInt i).toInt32 :: st) S) := rfl
theorem zq_sipush {i : Int} : z_do nL sh fl cs kc kl rt mc ρ stop go (.sipush i) g pc L (st) S = (go g (pc + 3) L (.int (Int16.ofInt i).toInt32 :: st) S) := rfl
theorem zq_lconst0 : z_do nL sh fl cs kc kl rt mc ρ stop go (.lconst 0) g pc L (st) S = (go g (pc + 1) L (.long 0 :: st) S) := rfl
theorem zq_lconst1 : z_do nL sh fl cs kc kl rt mc ρ stop go (.lconst 1) g pc L (st) S = (go g (pc + 1) L (.long 1 :: st) S) := rfl
theorem zq_ldc {i : Nat} : z_do nL sh fl cs kc kl rt mc ρ stop go (.ldc i) g pc L (st) S = (z_lK go g (pc + 2) L st S (kc i)) := by show z_one (kc i) _ = _; cases kc i <;> rfl
theorem zq_ldc_w {i : Nat} : z_do nL sh fl cs kc kl rt mc ρ stop go (.ldc_w i) g pc L (st) S = (z_lK go g (pc + 3) L st S (kc i)) := by show z_one (kc i) _ = _; cases kc i <;> rfl
theorem zq_ldc2_w {i : Nat} : z_do nL sh fl cs kc kl rt mc ρ stop go (.ldc2_w i) g pc L (st) S = (z_lM go g (pc + 3) L st S (kl i)) := by show z_one (kl i) _ = _; cases kl i <;> rfl
theorem zq_iload0 : z_do nL sh fl cs kc kl rt mc ρ stop go (.iload_n 0) g pc L (st) S = (z_lI go g (pc + 1) L st S (z_gt L 0)) := z_lv_I
theorem zq_iload1 : z_do nL sh fl cs kc kl rt mc ρ stop go (.iload_n 1) g pc L (st) S = (z_lI go g (pc + 1) L st S (z_gt L 1)) := z_lv_I
theorem zq_iload2 : z_do nL sh fl cs kc kl rt mc ρ stop go (.iload_n 2) g pc L (st) S = (z_lI go g (pc + 1) L st S (z_gt L 2)) := z_lv_I
theorem zq_iload3 : z_do nL sh fl cs kc kl rt mc ρ stop go (.iload_n 3) g pc L (st) S = (z_lI go g (pc + 1) L st S (z_gt L 3)) := z_lv_I
theorem zq_iload {i : Nat} : z_do nL sh fl cs kc kl rt mc ρ stop go (.iload i) g pc L (st) S = (z_lI go g (pc + 2) L st S (z_gt L i)) := z_lv_I
theorem zq_lload0 : z_do nL sh fl cs kc kl rt mc ρ stop go (.lload_n 0) g pc L (st) S = (z_lJ go g (pc + 1) L st S (z_gt L 0)) := z_lv_J
theorem zq_lload1 : z_do nL sh fl cs kc kl rt mc ρ stop go (.lload_n 1) g pc L (st) S = (z_lJ go g (pc + 1) L st S (z_gt L 1)) := z_lv_J
theorem zq_lload2 : z_do nL sh fl cs kc kl rt mc ρ stop go (.lload_n 2) g pc L (st) S = (z_lJ go g (pc + 1) L st S (z_gt L 2)) := z_lv_J
theorem zq_lload3 : z_do nL sh fl cs kc kl rt mc ρ stop go (.lload_n 3) g pc L (st) S = (z_lJ go g (pc + 1) L st S (z_gt L 3)) := z_lv_J
theorem zq_lload {i : Nat} : z_do nL sh fl cs kc kl rt mc ρ stop go (.lload i) g pc L (st) S = (z_lJ go g (pc + 2) L st S (z_gt L i)) := z_lv_J
theorem zq_aload0 : z_do nL sh fl cs kc kl rt mc ρ stop go (.aload_n 0) g pc L (st) S = (z_lR go g (pc + 1) L st S (z_gt L 0)) := z_lv_R
theorem zq_aload1 : z_do nL sh fl cs kc kl rt mc ρ stop go (.aload_n 1) g pc L (st) S = (z_lR go g (pc + 1) L st S (z_gt L 1)) := z_lv_R
theorem zq_aload2 : z_do nL sh fl cs kc kl rt mc ρ stop go (.aload_n 2) g pc L (st) S = (z_lR go g (pc + 1) L st S (z_gt L 2)) := z_lv_R
theorem zq_aload3 : z_do nL sh fl cs kc kl rt mc ρ stop go (.aload_n 3) g pc L (st) S = (z_lR go g (pc + 1) L st S (z_gt L 3)) := z_lv_R
theorem zq_aload {i : Nat} : z_do nL sh fl cs kc kl rt mc ρ stop go (.aload i) g pc L (st) S = (z_lR go g (pc + 2) L st S (z_gt L i)) := z_lv_R
theorem zq_istore0 {x : Int32} : z_do nL sh fl cs kc kl rt mc ρ stop go (.istore_n 0) g pc L (.int x :: st) S = (0 < nL ∧ go g (pc + 1) (z_st L 0 (.int x)) st S) := rfl
theorem zq_istore1 {x : Int32} : z_do nL sh fl cs kc kl rt mc ρ stop go (.istore_n 1) g pc L (.int x :: st) S = (1 < nL ∧ go g (pc + 1) (z_st L 1 (.int x)) st S) := rfl
theorem zq_istore2 {x : Int32} : z_do nL sh fl cs kc kl rt mc ρ stop go (.istore_n 2) g pc L (.int x :: st) S = (2 < nL ∧ go g (pc + 1) (z_st L 2 (.int x)) st S) := rfl
theorem zq_istore3 {x : Int32} : z_do nL sh fl cs kc kl rt mc ρ stop go (.istore_n 3) g pc L (.int x :: st) S = (3 < nL ∧ go g (pc + 1) (z_st L 3 (.int x)) st S) := rfl
theorem zq_istore {i : Nat} {x : Int32} : z_do nL sh fl cs kc kl rt mc ρ stop go (.istore i) g pc L (.int x :: st) S = (i < nL ∧ go g (pc + 2) (z_st L i (.int x)) st S) := rfl
theorem zq_lstore0 {x : Int64} : z_do nL sh fl cs kc kl rt mc ρ stop go (.lstore_n 0) g pc L (.long x :: st) S = (0 + 1 < nL ∧ go g (pc + 1) (z_stL L 0 (.long x)) st S) := rfl
theorem zq_lstore1 {x : Int64} : z_do nL sh fl cs kc kl rt mc ρ stop go (.lstore_n 1) g pc L (.long x :: st) S = (1 + 1 < nL ∧ go g (pc + 1) (z_stL L 1 (.long x)) st S) := rfl
theorem zq_lstore2 {x : Int64} : z_do nL sh fl cs kc kl rt mc ρ stop go (.lstore_n 2) g pc L (.long x :: st) S = (2 + 1 < nL ∧ go g (pc + 1) (z_stL L 2 (.long x)) st S) := rfl
theorem zq_lstore3 {x : Int64} : z_do nL sh fl cs kc kl rt mc ρ stop go (.lstore_n 3) g pc L (.long x :: st) S = (3 + 1 < nL ∧ go g (pc + 1) (z_stL L 3 (.long x)) st S) := rfl
theorem zq_lstore {i : Nat} {x : Int64} : z_do nL sh fl cs kc kl rt mc ρ stop go (.lstore i) g pc L (.long x :: st) S = (i + 1 < nL ∧ go g (pc + 2) (z_stL L i (.long x)) st S) := rfl
theorem zq_astore0 {x : Nat} : z_do nL sh fl cs kc kl rt mc ρ stop go (.astore_n 0) g pc L (.ref x :: st) S = (0 < nL ∧ go g (pc + 1) (z_st L 0 (.ref x)) st S) := rfl
theorem zq_astore0N : z_do nL sh fl cs kc kl rt mc ρ stop go (.astore_n 0) g pc L (.null :: st) S = (0 < nL ∧ go g (pc + 1) (z_st L 0 (.null)) st S) := rfl
theorem zq_astore1 {x : Nat} : z_do nL sh fl cs kc kl rt mc ρ stop go (.astore_n 1) g pc L (.ref x :: st) S = (1 < nL ∧ go g (pc + 1) (z_st L 1 (.ref x)) st S) := rfl
theorem zq_astore1N : z_do nL sh fl cs kc kl rt mc ρ stop go (.astore_n 1) g pc L (.null :: st) S = (1 < nL ∧ go g (pc + 1) (z_st L 1 (.null)) st S) := rfl
theorem zq_astore2 {x : Nat} : z_do nL sh fl cs kc kl rt mc ρ stop go (.astore_n 2) g pc L (.ref x :: st) S = (2 < nL ∧ go g (pc + 1) (z_st L 2 (.ref x)) st S) := rfl
theorem zq_astore2N : z_do nL sh fl cs kc kl rt mc ρ stop go (.astore_n 2) g pc L (.null :: st) S = (2 < nL ∧ go g (pc + 1) (z_st L 2 (.null)) st S) := rfl
theorem zq_astore3 {x : Nat} : z_do nL sh fl cs kc kl rt mc ρ stop go (.astore_n 3) g pc L (.ref x :: st) S = (3 < nL ∧ go g (pc + 1) (z_st L 3 (.ref x)) st S) := rfl
theorem zq_astore3N : z_do nL sh fl cs kc kl rt mc ρ stop go (.astore_n 3) g pc L (.null :: st) S = (3 < nL ∧ go g (pc + 1) (z_st L 3 (.null)) st S) := rfl
theorem zq_astore {i : Nat} {x : Nat} : z_do nL sh fl cs kc kl rt mc ρ stop go (.astore i) g pc L (.ref x :: st) S = (i < nL ∧ go g (pc + 2) (z_st L i (.ref x)) st S) := rfl
theorem zq_astoreN {i : Nat}  : z_do nL sh fl cs kc kl rt mc ρ stop go (.astore i) g pc L (.null :: st) S = (i < nL ∧ go g (pc + 2) (z_st L i (.null)) st S) := rfl
theorem zq_iinc {i : Nat} {j : Int} : z_do nL sh fl cs kc kl rt mc ρ stop go (.iinc i j) g pc L (st) S = (z_lC go g (pc + 3) L st S i nL j (z_gt L i)) := z_lv_C
theorem zq_iadd {x y : Int32} : z_do nL sh fl cs kc kl rt mc ρ stop go (.iadd) g pc L (.int y :: .int x :: st) S = (go g (pc + 1) L (.int (x + y) :: st) S) := rfl
theorem zq_isub {x y : Int32} : z_do nL sh fl cs kc kl rt mc ρ stop go (.isub) g pc L (.int y :: .int x :: st) S = (go g (pc + 1) L (.int (x - y) :: st) S) := rfl
theorem zq_imul {x y : Int32} : z_do nL sh fl cs kc kl rt mc ρ stop go (.imul) g pc L (.int y :: .int x :: st) S = (go g (pc + 1) L (.int (x * y) :: st) S) := rfl
theorem zq_iand {x y : Int32} : z_do nL sh fl cs kc kl rt mc ρ stop go (.iand) g pc L (.int y :: .int x :: st) S = (go g (pc + 1) L (.int (x &&& y) :: st) S) := rfl
theorem zq_ior {x y : Int32} : z_do nL sh fl cs kc kl rt mc ρ stop go (.ior) g pc L (.int y :: .int x :: st) S = (go g (pc + 1) L (.int (x ||| y) :: st) S) := rfl
theorem zq_ixor {x y : Int32} : z_do nL sh fl cs kc kl rt mc ρ stop go (.ixor) g pc L (.int y :: .int x :: st) S = (go g (pc + 1) L (.int (x ^^^ y) :: st) S) := rfl
theorem zq_ishl {x y : Int32} : z_do nL sh fl cs kc kl rt mc ρ stop go (.ishl) g pc L (.int y :: .int x :: st) S = (go g (pc + 1) L (.int (x <<< (y &&& 31)) :: st) S) := rfl
theorem zq_ishr {x y : Int32} : z_do nL sh fl cs kc kl rt mc ρ stop go (.ishr) g pc L (.int y :: .int x :: st) S = (go g (pc + 1) L (.int (x >>> (y &&& 31)) :: st) S) := rfl
theorem zq_iushr {x y : Int32} : z_do nL sh fl cs kc kl rt mc ρ stop go (.iushr) g pc L (.int y :: .int x :: st) S = (go g (pc + 1) L (.int ((x.toUInt32 >>> (y.toUInt32 &&& Int32.toUInt32 31)).toInt32) :: st) S) := rfl
theorem zq_idiv {x y : Int32} : z_do nL sh fl cs kc kl rt mc ρ stop go (.idiv) g pc L (.int y :: .int x :: st) S = (¬ y = 0 ∧ go g (pc + 1) L (.int (x / y) :: st) S) := rfl
theorem zq_irem {x y : Int32} : z_do nL sh fl cs kc kl rt mc ρ stop go (.irem) g pc L (.int y :: .int x :: st) S = (¬ y = 0 ∧ go g (pc + 1) L (.int (x - x / y * y) :: st) S) := rfl
theorem zq_ladd {x y : Int64} : z_do nL sh fl cs kc kl rt mc ρ stop go (.ladd) g pc L (.long y :: .long x :: st) S = (go g (pc + 1) L (.long (x + y) :: st) S) := rfl
theorem zq_lsub {x y : Int64} : z_do nL sh fl cs kc kl rt mc ρ stop go (.lsub) g pc L (.long y :: .long x :: st) S = (go g (pc + 1) L (.long (x - y) :: st) S) := rfl
theorem zq_lmul {x y : Int64} : z_do nL sh fl cs kc kl rt mc ρ stop go (.lmul) g pc L (.long y :: .long x :: st) S = (go g (pc + 1) L (.long (x * y) :: st) S) := rfl
theorem zq_ldiv {x y : Int64} : z_do nL sh fl cs kc kl rt mc ρ stop go (.ldiv) g pc L (.long y :: .long x :: st) S = (¬ y = 0 ∧ go g (pc + 1) L (.long (x / y) :: st) S) := rfl
theorem zq_lrem {x y : Int64} : z_do nL sh fl cs kc kl rt mc ρ stop go (.lrem) g pc L (.long y :: .long x :: st) S = (¬ y = 0 ∧ go g (pc + 1) L (.long (x - x / y * y) :: st) S) := rfl
theorem zq_lcmp {x y : Int64} : z_do nL sh fl cs kc kl rt mc ρ stop go (.lcmp) g pc L (.long y :: .long x :: st) S = (go g (pc + 1) L (.int (lg_cmp x y) :: st) S) := rfl
theorem zq_i2l {x : Int32} : z_do nL sh fl cs kc kl rt mc ρ stop go (.i2l) g pc L (.int x :: st) S = (go g (pc + 1) L (.long x.toInt64 :: st) S) := rfl
theorem zq_i2b {x : Int32} : z_do nL sh fl cs kc kl rt mc ρ stop go (.i2b) g pc L (.int x :: st) S = (go g (pc + 1) L (.int x.toInt8.toInt32 :: st) S) := rfl
theorem zq_i2s {x : Int32} : z_do nL sh fl cs kc kl rt mc ρ stop go (.i2s) g pc L (.int x :: st) S = (go g (pc + 1) L (.int x.toInt16.toInt32 :: st) S) := rfl
theorem zq_dup_i {x : Int32} : z_do nL sh fl cs kc kl rt mc ρ stop go (.dup) g pc L (.int x :: st) S = (go g (pc + 1) L (.int x :: .int x :: st) S) := propext ⟨fun h => h.2, fun h => ⟨rfl, h⟩⟩
theorem zq_dup_r {x : Nat} : z_do nL sh fl cs kc kl rt mc ρ stop go (.dup) g pc L (.ref x :: st) S = (go g (pc + 1) L (.ref x :: .ref x :: st) S) := propext ⟨fun h => h.2, fun h => ⟨rfl, h⟩⟩
theorem zq_dup2 {y : Int32} {x : Nat} : z_do nL sh fl cs kc kl rt mc ρ stop go (.dup2) g pc L (.int y :: .ref x :: st) S = (go g (pc + 1) L (.int y :: .ref x :: .int y :: .ref x :: st) S) := propext ⟨fun h => h.2, fun h => ⟨⟨rfl, rfl⟩, h⟩⟩
theorem zq_null : z_do nL sh fl cs kc kl rt mc ρ stop go (.aconst_null) g pc L (st) S = (go g (pc + 1) L (.null :: st) S) := rfl
theorem zq_icmp_eq {off : Int} {x y : Int32} : z_do nL sh fl cs kc kl rt mc ρ stop go (.if_icmp .eq off) g pc L (.int y :: .int x :: st) S = ((0 ≤ (pc : Int) + off) ∧ (x = y → go g ((pc : Int) + off).toNat L st S) ∧ (¬ x = y → go g (pc + 3) L st S)) := rfl
theorem zq_if_eq {off : Int} {x : Int32} : z_do nL sh fl cs kc kl rt mc ρ stop go (.ifCond .eq off) g pc L (.int x :: st) S = ((0 ≤ (pc : Int) + off) ∧ (x = 0 → go g ((pc : Int) + off).toNat L st S) ∧ (¬ x = 0 → go g (pc + 3) L st S)) := rfl
theorem zq_icmp_ne {off : Int} {x y : Int32} : z_do nL sh fl cs kc kl rt mc ρ stop go (.if_icmp .ne off) g pc L (.int y :: .int x :: st) S = ((0 ≤ (pc : Int) + off) ∧ (x = y → go g (pc + 3) L st S) ∧ (¬ x = y → go g ((pc : Int) + off).toNat L st S)) := rfl
theorem zq_if_ne {off : Int} {x : Int32} : z_do nL sh fl cs kc kl rt mc ρ stop go (.ifCond .ne off) g pc L (.int x :: st) S = ((0 ≤ (pc : Int) + off) ∧ (x = 0 → go g (pc + 3) L st S) ∧ (¬ x = 0 → go g ((pc : Int) + off).toNat L st S)) := rfl
theorem zq_icmp_lt {off : Int} {x y : Int32} : z_do nL sh fl cs kc kl rt mc ρ stop go (.if_icmp .lt off) g pc L (.int y :: .int x :: st) S = ((0 ≤ (pc : Int) + off) ∧ (x < y → go g ((pc : Int) + off).toNat L st S) ∧ (¬ x < y → go g (pc + 3) L st S)) := rfl
theorem zq_if_lt {off : Int} {x : Int32} : z_do nL sh fl cs kc kl rt mc ρ stop go (.ifCond .lt off) g pc L (.int x :: st) S = ((0 ≤ (pc : Int) + off) ∧ (x < 0 → go g ((pc : Int) + off).toNat L st S) ∧ (¬ x < 0 → go g (pc + 3) L st S)) := rfl
theorem zq_icmp_ge {off : Int} {x y : Int32} : z_do nL sh fl cs kc kl rt mc ρ stop go (.if_icmp .ge off) g pc L (.int y :: .int x :: st) S = ((0 ≤ (pc : Int) + off) ∧ (y ≤ x → go g ((pc : Int) + off).toNat L st S) ∧ (¬ y ≤ x → go g (pc + 3) L st S)) := rfl
theorem zq_if_ge {off : Int} {x : Int32} : z_do nL sh fl cs kc kl rt mc ρ stop go (.ifCond .ge off) g pc L (.int x :: st) S = ((0 ≤ (pc : Int) + off) ∧ (0 ≤ x → go g ((pc : Int) + off).toNat L st S) ∧ (¬ 0 ≤ x → go g (pc + 3) L st S)) := rfl
theorem zq_icmp_gt {off : Int} {x y : Int32} : z_do nL sh fl cs kc kl rt mc ρ stop go (.if_icmp .gt off) g pc L (.int y :: .int x :: st) S = ((0 ≤ (pc : Int) + off) ∧ (y < x → go g ((pc : Int) + off).toNat L st S) ∧ (¬ y < x → go g (pc + 3) L st S)) := rfl
theorem zq_if_gt {off : Int} {x : Int32} : z_do nL sh fl cs kc kl rt mc ρ stop go (.ifCond .gt off) g pc L (.int x :: st) S = ((0 ≤ (pc : Int) + off) ∧ (0 < x → go g ((pc : Int) + off).toNat L st S) ∧ (¬ 0 < x → go g (pc + 3) L st S)) := rfl
theorem zq_icmp_le {off : Int} {x y : Int32} : z_do nL sh fl cs kc kl rt mc ρ stop go (.if_icmp .le off) g pc L (.int y :: .int x :: st) S = ((0 ≤ (pc : Int) + off) ∧ (x ≤ y → go g ((pc : Int) + off).toNat L st S) ∧ (¬ x ≤ y → go g (pc + 3) L st S)) := rfl
theorem zq_if_le {off : Int} {x : Int32} : z_do nL sh fl cs kc kl rt mc ρ stop go (.ifCond .le off) g pc L (.int x :: st) S = ((0 ≤ (pc : Int) + off) ∧ (x ≤ 0 → go g ((pc : Int) + off).toNat L st S) ∧ (¬ x ≤ 0 → go g (pc + 3) L st S)) := rfl
theorem zq_goto {off : Int} : z_do nL sh fl cs kc kl rt mc ρ stop go (.goto off) g pc L (st) S = ((0 ≤ (pc : Int) + off) ∧ go g ((pc : Int) + off).toNat L st S) := rfl
theorem zq_ifnull_r {off : Int} {x : Nat} : z_do nL sh fl cs kc kl rt mc ρ stop go (.ifnull off) g pc L (.ref x :: st) S = ((0 ≤ (pc : Int) + off) ∧ go g (pc + 3) L st S) := rfl
theorem zq_ifnull_n {off : Int} : z_do nL sh fl cs kc kl rt mc ρ stop go (.ifnull off) g pc L (.null :: st) S = ((0 ≤ (pc : Int) + off) ∧ go g ((pc : Int) + off).toNat L st S) := rfl
theorem zq_ifnonnull_r {off : Int} {x : Nat} : z_do nL sh fl cs kc kl rt mc ρ stop go (.ifnonnull off) g pc L (.ref x :: st) S = ((0 ≤ (pc : Int) + off) ∧ go g ((pc : Int) + off).toNat L st S) := rfl
theorem zq_ifnonnull_n {off : Int} : z_do nL sh fl cs kc kl rt mc ρ stop go (.ifnonnull off) g pc L (.null :: st) S = ((0 ≤ (pc : Int) + off) ∧ go g (pc + 3) L st S) := rfl
theorem zq_iaload {i : Int32} {a : Nat} : z_do nL sh fl cs kc kl rt mc ρ stop go (.iaload) g pc L (.int i :: .ref a :: st) S = (z_aI go 0 g (pc + 1) L st S a i (z_ar sh a)) := z_ari_I
theorem zq_baload {i : Int32} {a : Nat} : z_do nL sh fl cs kc kl rt mc ρ stop go (.baload) g pc L (.int i :: .ref a :: st) S = (z_aI go 2 g (pc + 1) L st S a i (z_ar sh a)) := z_ari_I
theorem zq_laload {i : Int32} {a : Nat} : z_do nL sh fl cs kc kl rt mc ρ stop go (.laload) g pc L (.int i :: .ref a :: st) S = (z_aJ go g (pc + 1) L st S a i (z_ar sh a)) := z_ari_J
theorem zq_aaload {i : Int32} {a : Nat} : z_do nL sh fl cs kc kl rt mc ρ stop go (.aaload) g pc L (.int i :: .ref a :: st) S = (z_aR go g (pc + 1) L st S a i (z_ar sh a)) := z_ari_R
theorem zq_iastore {x : Int32} {i : Int32} {a : Nat} : z_do nL sh fl cs kc kl rt mc ρ stop go (.iastore) g pc L (.int x :: .int i :: .ref a :: st) S = (z_asI go 0 g (pc + 1) L st S a i x (z_ar sh a)) := z_ari_sI
theorem zq_bastore {x : Int32} {i : Int32} {a : Nat} : z_do nL sh fl cs kc kl rt mc ρ stop go (.bastore) g pc L (.int x :: .int i :: .ref a :: st) S = (z_asI go 2 g (pc + 1) L st S a i (vp_nar .boolean x) (z_ar sh a)) := z_ari_sI
theorem zq_lastore {x : Int64} {i : Int32} {a : Nat} : z_do nL sh fl cs kc kl rt mc ρ stop go (.lastore) g pc L (.long x :: .int i :: .ref a :: st) S = (z_asJ go g (pc + 1) L st S a i x (z_ar sh a)) := z_ari_sJ
theorem zq_alen {a : Nat} : z_do nL sh fl cs kc kl rt mc ρ stop go (.arraylength) g pc L (.ref a :: st) S = (z_al go g (pc + 1) L st S (z_ar sh a)) := z_alen_e
theorem zq_getf {i a : Nat} : z_do nL sh fl cs kc kl rt mc ρ stop go (.getfield i) g pc L (.ref a :: st) S = (z_gf go g (pc + 3) L st S a (z_fl sh fl a i)) := z_fld_g
theorem zq_put {i a : Nat} {x : Int32} : z_do nL sh fl cs kc kl rt mc ρ stop go (.putfield i) g pc L (.int x :: .ref a :: st) S = (z_pf go g (pc + 3) L st S a x (z_fl sh fl a i)) := z_fld_p
theorem zq_tsw {d lo hi : Int} {os : Array Int} {x : Int32} : z_do nL sh fl cs kc kl rt mc ρ stop go (.tableswitch d lo hi os) g pc L (.int x :: st) S = (((x.toInt < lo ∨ hi < x.toInt) → (0 ≤ (pc : Int) + d ∧ go g ((pc : Int) + d).toNat L st S)) ∧ hi = lo + os.toList.length - 1 ∧ z_tb2 go g pc L st S x lo os.toList) := by rw [← z_tb2_eq]; rfl
theorem zq_lsw {d : Int} {ps : Array (Int × Int)} {x : Int32} : z_do nL sh fl cs kc kl rt mc ρ stop go (.lookupswitch d ps) g pc L (.int x :: st) S = (z_inc ps.toList = true ∧ z_lk2 go g pc L st S x d ps.toList) := by rw [← z_lk2_eq]; rfl
theorem zq_ireturn {x : Int32} : z_do nL sh fl cs kc kl rt mc ρ stop go (.ireturn) g pc L ([.int x]) S = (z_rt rt x ∧ g ≤ mc ∧ ρ (some (.int x)) S) := propext ⟨fun h => h.2, fun h => ⟨rfl, h⟩⟩
theorem zq_lreturn {x : Int64} : z_do nL sh fl cs kc kl rt mc ρ stop go (.lreturn) g pc L ([.long x]) S = (rt = some .long ∧ g ≤ mc ∧ ρ (some (.long x)) S) := propext ⟨fun h => h.2, fun h => ⟨rfl, h⟩⟩
theorem zq_areturn {x : Nat} : z_do nL sh fl cs kc kl rt mc ρ stop go (.areturn) g pc L ([.ref x]) S = (z_rto rt ∧ g ≤ mc ∧ ρ (some (.ref x)) S) := propext ⟨fun h => h.2, fun h => ⟨rfl, h⟩⟩
theorem zq_areturnN : z_do nL sh fl cs kc kl rt mc ρ stop go (.areturn) g pc L ([.null]) S = (z_rto rt ∧ g ≤ mc ∧ ρ (some .null) S) := propext ⟨fun h => h.2, fun h => ⟨rfl, h⟩⟩
theorem zq_return : z_do nL sh fl cs kc kl rt mc ρ stop go (.return_) g pc L ([]) S = (rt = none ∧ g ≤ mc ∧ ρ none S) := propext ⟨fun h => h.2, fun h => ⟨rfl, h⟩⟩
theorem zq_invokestatic {i : Nat} : z_do nL sh fl cs kc kl rt mc ρ stop go (.invokestatic i) g pc L (st) S = (z_iv go mc g pc L st S stop true (cs.lookup i)) := z_cls_iv
theorem zq_invokevirtual {i : Nat} : z_do nL sh fl cs kc kl rt mc ρ stop go (.invokevirtual i) g pc L (st) S = (z_iv go mc g pc L st S stop false (cs.lookup i)) := z_cls_iv
theorem zq_new {i : Nat} : z_do nL sh fl cs kc kl rt mc ρ stop go (.new i) g pc L (st) S = (stop) := rfl
theorem zq_invokespecial {i : Nat} : z_do nL sh fl cs kc kl rt mc ρ stop go (.invokespecial i) g pc L (st) S = (stop) := rfl
theorem zq_newarray {t : ArrayType} : z_do nL sh fl cs kc kl rt mc ρ stop go (.newarray t) g pc L (st) S = (stop) := rfl
theorem zq_anewarray {i : Nat} : z_do nL sh fl cs kc kl rt mc ρ stop go (.anewarray i) g pc L (st) S = (stop) := rfl
theorem zq_aastore : z_do nL sh fl cs kc kl rt mc ρ stop go (.aastore) g pc L (st) S = (stop) := rfl
theorem zl_I {x : Int32} : z_lI go g pc L st S (some (.int x)) = go g pc L (.int x :: st) S := rfl
theorem zl_J {x : Int64} : z_lJ go g pc L st S (some (.long x)) = go g pc L (.long x :: st) S := rfl
theorem zl_R {x : Nat} : z_lR go g pc L st S (some (.ref x)) = go g pc L (.ref x :: st) S := rfl
theorem zl_N : z_lR go g pc L st S (some .null) = go g pc L (.null :: st) S := rfl
theorem zl_C {i nL : Nat} {n : Int} {x : Int32} : z_lC go g pc L st S i nL n (some (.int x)) = (i < nL ∧ go g pc (z_st L i (.int (x + Int32.ofInt n))) st S) := rfl
theorem zl_K {x : Int32} : z_lK go g pc L st S (some x) = go g pc L (.int x :: st) S := rfl
theorem zl_M {x : Int64} : z_lM go g pc L st S (some x) = go g pc L (.long x :: st) S := rfl
theorem zl_ar0 {i : Int32} {a n b : Nat} : z_aI go 0 g pc L st S a i (some (0, n, b)) = (vp_in i n ∧ go g pc L (.int (S.1 a i.toNatClampNeg) :: st) S) := propext ⟨fun z => z.2, fun z => ⟨rfl, z⟩⟩
theorem zl_ar2 {i : Int32} {a n b : Nat} : z_aI go 2 g pc L st S a i (some (2, n, b)) = (vp_in i n ∧ go g pc L (.int (S.1 a i.toNatClampNeg) :: st) S) := propext ⟨fun z => z.2, fun z => ⟨rfl, z⟩⟩
theorem zl_ar1 {i : Int32} {a n b : Nat} : z_aJ go g pc L st S a i (some (1, n, b)) = (vp_in i n ∧ go g pc L (.long (S.2 a i.toNatClampNeg) :: st) S) := propext ⟨fun z => z.2, fun z => ⟨rfl, z⟩⟩
theorem zl_ar3 {i : Int32} {a n b : Nat} : z_aR go g pc L st S a i (some (3, n, b)) = (vp_in i n ∧ go g pc L (.ref (b + i.toNatClampNeg) :: st) S) := propext ⟨fun z => z.2, fun z => ⟨rfl, z⟩⟩
theorem zl_as0 {i : Int32} {a n b : Nat} {x : Int32} : z_asI go 0 g pc L st S a i x (some (0, n, b)) = (vp_in i n ∧ go g pc L st (z_u S.1 a i.toNatClampNeg x, S.2)) := propext ⟨fun z => z.2, fun z => ⟨rfl, z⟩⟩
theorem zl_as2 {i : Int32} {a n b : Nat} {x : Int32} : z_asI go 2 g pc L st S a i x (some (2, n, b)) = (vp_in i n ∧ go g pc L st (z_u S.1 a i.toNatClampNeg x, S.2)) := propext ⟨fun z => z.2, fun z => ⟨rfl, z⟩⟩
theorem zl_as1 {i : Int32} {a n b : Nat} {x : Int64} : z_asJ go g pc L st S a i x (some (1, n, b)) = (vp_in i n ∧ go g pc L st (S.1, z_u S.2 a i.toNatClampNeg x)) := propext ⟨fun z => z.2, fun z => ⟨rfl, z⟩⟩
theorem zl_al {t n b : Nat} : z_al go g pc L st S (some (t, n, b)) = go g pc L (.int (Int32.ofNat n) :: st) S := rfl
theorem zl_gf {a ci j : Nat} : z_gf go g pc L st S a (some (ci, j, none)) = go g pc L (.int (S.1 a j) :: st) S := rfl
theorem zl_gr {a ci j p : Nat} : z_gf go g pc L st S a (some (ci, j, some p)) = go g pc L (.ref p :: st) S := rfl
theorem zl_pf {a ci j : Nat} {x : Int32} : z_pf go g pc L st S a x (some (ci, j, none)) = (z_int ci j = true ∧ go g pc L st (z_u S.1 a j x, S.2)) := rfl
theorem zl_iv {b : Bool} {m : Nat} {wp : ZW} : z_iv go mc g pc L st S stop b (some (n, m, b, wp)) = (g + m ≤ mc ∧ z_cal go wp m g pc L S n [] st) := propext ⟨fun z => z.2, fun z => ⟨rfl, z⟩⟩
theorem zl_ivn {b : Bool} : z_iv go mc g pc L st S stop b none = stop := rfl
theorem zlk_n {x : Int32} {d : Int} : z_lk2 go g pc L st S x d [] = (0 ≤ (pc : Int) + d ∧ go g ((pc : Int) + d).toNat L st S) := rfl
theorem zlk_c {x : Int32} {d a b : Int} {t : List (Int × Int)} : z_lk2 go g pc L st S x d ((a, b) :: t) = ((x.toInt = a → 0 ≤ (pc : Int) + b ∧ go g ((pc : Int) + b).toNat L st S) ∧ (¬ x.toInt = a → z_lk2 go g pc L st S x d t)) := rfl
theorem ztb_n {x : Int32} {lo : Int} : z_tb2 go g pc L st S x lo [] = True := rfl
theorem ztb_c {x : Int32} {lo b : Int} {t : List Int} : z_tb2 go g pc L st S x lo (b :: t) = ((x.toInt = lo → 0 ≤ (pc : Int) + b ∧ go g ((pc : Int) + b).toNat L st S) ∧ z_tb2 go g pc L st S x (lo + 1) t) := rfl
theorem zin_n : z_inc [] = true := rfl
theorem zin_1 {a : Int × Int} : z_inc [a] = true := rfl
theorem zin_c {a b : Int × Int} {t : List (Int × Int)} : z_inc (a :: b :: t) = (decide (a.1 < b.1) && z_inc (b :: t)) := rfl
end ZR
