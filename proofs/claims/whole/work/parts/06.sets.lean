def z_in : List Nat → Nat → Bool
  | [], _ => false
  | a :: t, p => a == p || z_in t p
theorem z_in_n {p : Nat} : z_in [] p = false := rfl
theorem z_in_c {a p : Nat} {t : List Nat} : z_in (a :: t) p = (a == p || z_in t p) := rfl
theorem zst_0 {a : Option Value} {t : List (Option Value)} {v : Value} : z_st (a :: t) 0 v = some v :: t := by cases t <;> rfl
theorem zst_1 {a : Option Value} {t : List (Option Value)} {v : Value} : z_st (a :: t) 1 v = z_cl1 a :: z_st t 0 v := rfl
theorem zst_s {a : Option Value} {t : List (Option Value)} {v : Value} {i : Nat} : z_st (a :: t) (i + 2) v = a :: z_st t (i + 1) v := rfl
theorem zsl_0 {a b : Option Value} {t : List (Option Value)} {v : Value} : z_stL (a :: b :: t) 0 v = some v :: none :: t := rfl
theorem zsl_1 {a b : Option Value} {t : List (Option Value)} {v : Value} : z_stL (a :: b :: t) 1 v = z_cl1 a :: z_stL (b :: t) 0 v := rfl
theorem zsl_s {a : Option Value} {t : List (Option Value)} {v : Value} {i : Nat} : z_stL (a :: t) (i + 2) v = a :: z_stL t (i + 1) v := by cases t <;> rfl
theorem zc_n : z_cl1 none = none := rfl
theorem zc_i {x : Int32} : z_cl1 (some (.int x)) = some (.int x) := rfl
theorem zc_l {x : Int64} : z_cl1 (some (.long x)) = none := rfl
theorem zc_r {x : Nat} : z_cl1 (some (.ref x)) = some (.ref x) := rfl
theorem zc_u : z_cl1 (some .null) = some .null := rfl
theorem zca_n : z_cat [] = 0 := rfl
theorem zca_i {x : Int32} {t : List Value} : z_cat (.int x :: t) = 1 + z_cat t := rfl
theorem zca_l {x : Int64} {t : List Value} : z_cat (.long x :: t) = 2 + z_cat t := rfl
theorem zca_r {x : Nat} {t : List Value} : z_cat (.ref x :: t) = 1 + z_cat t := rfl
theorem zca_u {t : List Value} : z_cat (.null :: t) = 1 + z_cat t := rfl
theorem zrt_i {x : Int32} : z_rt (some .int) x = True := rfl
theorem zrt_z {x : Int32} : z_rt (some .boolean) x = (x = 0 ∨ x = 1) := rfl
theorem zrt_o {n : String} : z_rto (some (.object n)) = True := rfl
theorem z_and_t {p : Prop} : (True ∧ p) = p := propext ⟨fun h => h.2, fun h => ⟨trivial, h⟩⟩
theorem z10 : ((1 : Int32) = 0) = False := by decide
theorem z01 : ((0 : Int32) = 1) = False := by decide
theorem zm0 : ((-1 : Int32) = 0) = False := by decide
theorem z0m : ((0 : Int32) = -1) = False := by decide

def z_or (w1 w2 : ZW) : ZW := fun as S k => w1 as S k ∨ w2 as S k
theorem z_cs_min {own : String} {R : Room} {sh : List ZE} {i : Nat} (h1 : Cond.methodLink own i Lib.Math.min.name ∈ lw_g) (h2 : Cond.static Lib.Math.min.name ∈ lw_g) (h3 : Cond.initialized "java/lang/Math" ∈ lw_g) (h4 : Cond.code Lib.Math.min.name Lib.Math.min.code 2 (some .int) ∈ lw_g) (hR : 1 ≤ R.frames ∧ 21 ≤ R.locals) : z_cs1 own R sh i (2, 0, true, wp_min) := by
  intro p l e s m args below meth c D cA q A ex nL Q cc rt C g pc L as r S post hdec hlen hcat hroom hw hk H locs ls hP hD hS hL
  obtain ⟨hx, hb, hml, hr, hlocks, hown, hts, hK, hA⟩ := id C
  change wp_min as S post at hw
  unfold wp_min at hw
  split at hw
  · exact va_mmin hx hb (hml.trans hL.1.symm) hown (hts _ h1) (hts _ h2) (hts _ h3) (hts _ h4) hR.1 (by rw [z_cat_em]; show z_cat r + 13 ≤ R.locals; have := hcat; have := hR.2; omega) hroom.1 hroom.2 hdec (hk _ _ hw H locs ls hP hD hS hL)
  · exact hw.elim
theorem z_cs_max {own : String} {R : Room} {sh : List ZE} {i : Nat} (h1 : Cond.methodLink own i Lib.Math.max.name ∈ lw_g) (h2 : Cond.static Lib.Math.max.name ∈ lw_g) (h3 : Cond.initialized "java/lang/Math" ∈ lw_g) (h4 : Cond.code Lib.Math.max.name Lib.Math.max.code 2 (some .int) ∈ lw_g) (hR : 1 ≤ R.frames ∧ 21 ≤ R.locals) : z_cs1 own R sh i (2, 0, true, wp_max) := by
  intro p l e s m args below meth c D cA q A ex nL Q cc rt C g pc L as r S post hdec hlen hcat hroom hw hk H locs ls hP hD hS hL
  obtain ⟨hx, hb, hml, hr, hlocks, hown, hts, hK, hA⟩ := id C
  change wp_max as S post at hw
  unfold wp_max at hw
  split at hw
  · exact va_mmax hx hb (hml.trans hL.1.symm) hown (hts _ h1) (hts _ h2) (hts _ h3) (hts _ h4) hR.1 (by rw [z_cat_em]; show z_cat r + 13 ≤ R.locals; have := hcat; have := hR.2; omega) hroom.1 hroom.2 hdec (hk _ _ hw H locs ls hP hD hS hL)
  · exact hw.elim
theorem wr_min {x y : Int32} {S : ZS} {k : Option Value → ZS → Prop} : wp_min [.int x, .int y] S k = k (some (.int (if y < x then y else x))) S := rfl
theorem wr_max {x y : Int32} {S : ZS} {k : Option Value → ZS → Prop} : wp_max [.int x, .int y] S k = k (some (.int (if x < y then y else x))) S := rfl
theorem z40 : ((4 : Int32) = 0) = False := by decide
theorem z20 : ((2 : Int32) = 0) = False := by decide
theorem z_rd {α : Type} {f : Nat → Nat → α} {k j a b : Nat} {v : α} : z_u f k j v a b = if a = k ∧ b = j then v else f a b := rfl
theorem zo_iconst {n : Int} : z_okl (.iconst n) 1 = true := rfl
theorem zo_bipush {n : Int} : z_okl (.bipush n) 2 = true := rfl
theorem zo_sipush {n : Int} : z_okl (.sipush n) 3 = true := rfl
theorem zo_lconst {n : Fin 2} : z_okl (.lconst n) 1 = true := rfl
theorem zo_ldc {i : Nat} : z_okl (.ldc i) 2 = true := rfl
theorem zo_ldc_w {i : Nat} : z_okl (.ldc_w i) 3 = true := rfl
theorem zo_ldc2_w {i : Nat} : z_okl (.ldc2_w i) 3 = true := rfl
theorem zo_iload_n {k : Fin 4} : z_okl (.iload_n k) 1 = true := rfl
theorem zo_iload {i : Nat} : z_okl (.iload i) 2 = true := rfl
theorem zo_lload_n {k : Fin 4} : z_okl (.lload_n k) 1 = true := rfl
theorem zo_lload {i : Nat} : z_okl (.lload i) 2 = true := rfl
theorem zo_aload_n {k : Fin 4} : z_okl (.aload_n k) 1 = true := rfl
theorem zo_aload {i : Nat} : z_okl (.aload i) 2 = true := rfl
theorem zo_istore_n {k : Fin 4} : z_okl (.istore_n k) 1 = true := rfl
theorem zo_istore {i : Nat} : z_okl (.istore i) 2 = true := rfl
theorem zo_lstore_n {k : Fin 4} : z_okl (.lstore_n k) 1 = true := rfl
theorem zo_lstore {i : Nat} : z_okl (.lstore i) 2 = true := rfl
theorem zo_astore_n {k : Fin 4} : z_okl (.astore_n k) 1 = true := rfl
theorem zo_astore {i : Nat} : z_okl (.astore i) 2 = true := rfl
theorem zo_iinc {i : Nat} {n : Int} : z_okl (.iinc i n) 3 = true := rfl
theorem zo_iadd  : z_okl (.iadd) 1 = true := rfl
theorem zo_isub  : z_okl (.isub) 1 = true := rfl
theorem zo_imul  : z_okl (.imul) 1 = true := rfl
theorem zo_iand  : z_okl (.iand) 1 = true := rfl
theorem zo_ior  : z_okl (.ior) 1 = true := rfl
theorem zo_ixor  : z_okl (.ixor) 1 = true := rfl
theorem zo_ishl  : z_okl (.ishl) 1 = true := rfl
theorem zo_ishr  : z_okl (.ishr) 1 = true := rfl
theorem zo_iushr  : z_okl (.iushr) 1 = true := rfl
theorem zo_idiv  : z_okl (.idiv) 1 = true := rfl
theorem zo_irem  : z_okl (.irem) 1 = true := rfl
theorem zo_ladd  : z_okl (.ladd) 1 = true := rfl
theorem zo_lsub  : z_okl (.lsub) 1 = true := rfl
theorem zo_lmul  : z_okl (.lmul) 1 = true := rfl
theorem zo_ldiv  : z_okl (.ldiv) 1 = true := rfl
theorem zo_lrem  : z_okl (.lrem) 1 = true := rfl
theorem zo_lcmp  : z_okl (.lcmp) 1 = true := rfl
theorem zo_i2l  : z_okl (.i2l) 1 = true := rfl
theorem zo_i2b  : z_okl (.i2b) 1 = true := rfl
theorem zo_i2s  : z_okl (.i2s) 1 = true := rfl
theorem zo_dup  : z_okl (.dup) 1 = true := rfl
theorem zo_dup2  : z_okl (.dup2) 1 = true := rfl
theorem zo_aconst_null  : z_okl (.aconst_null) 1 = true := rfl
theorem zo_if_icmp {c : ClassFile.Cond} {off : Int} : z_okl (.if_icmp c off) 3 = true := rfl
theorem zo_ifCond {c : ClassFile.Cond} {off : Int} : z_okl (.ifCond c off) 3 = true := rfl
theorem zo_goto {off : Int} : z_okl (.goto off) 3 = true := rfl
theorem zo_ifnull {off : Int} : z_okl (.ifnull off) 3 = true := rfl
theorem zo_ifnonnull {off : Int} : z_okl (.ifnonnull off) 3 = true := rfl
theorem zo_iaload  : z_okl (.iaload) 1 = true := rfl
theorem zo_baload  : z_okl (.baload) 1 = true := rfl
theorem zo_laload  : z_okl (.laload) 1 = true := rfl
theorem zo_aaload  : z_okl (.aaload) 1 = true := rfl
theorem zo_iastore  : z_okl (.iastore) 1 = true := rfl
theorem zo_bastore  : z_okl (.bastore) 1 = true := rfl
theorem zo_lastore  : z_okl (.lastore) 1 = true := rfl
theorem zo_arraylength  : z_okl (.arraylength) 1 = true := rfl
theorem zo_getfield {i : Nat} : z_okl (.getfield i) 3 = true := rfl
theorem zo_putfield {i : Nat} : z_okl (.putfield i) 3 = true := rfl
theorem zo_tableswitch {d : Int} {lo : Int} {hi : Int} {os : Array Int} {len : Nat} : z_okl (.tableswitch d lo hi os) len = true := rfl
theorem zo_lookupswitch {d : Int} {ps : Array (Int × Int)} {len : Nat} : z_okl (.lookupswitch d ps) len = true := rfl
theorem zo_ireturn  : z_okl (.ireturn) 1 = true := rfl
theorem zo_lreturn  : z_okl (.lreturn) 1 = true := rfl
theorem zo_areturn  : z_okl (.areturn) 1 = true := rfl
theorem zo_return  : z_okl (.return_) 1 = true := rfl
theorem zo_invokestatic {i : Nat} : z_okl (.invokestatic i) 3 = true := rfl
theorem zo_invokevirtual {i : Nat} : z_okl (.invokevirtual i) 3 = true := rfl
theorem zo_new {i : Nat} : z_okl (.new i) 3 = true := rfl
theorem zo_invokespecial {i : Nat} : z_okl (.invokespecial i) 3 = true := rfl
theorem zo_newarray {t : ArrayType} : z_okl (.newarray t) 2 = true := rfl
theorem zo_anewarray {i : Nat} : z_okl (.anewarray i) 3 = true := rfl
theorem zo_aastore  : z_okl (.aastore) 1 = true := rfl
theorem zy_0_1 : z_int 0 1 = true := rfl
theorem zy_0_2 : z_int 0 2 = true := rfl
theorem zy_0_3 : z_int 0 3 = true := rfl
theorem zy_1_1 : z_int 1 1 = true := rfl
theorem zy_1_2 : z_int 1 2 = true := rfl
theorem zy_2_1 : z_int 2 1 = true := rfl
theorem zy_2_2 : z_int 2 2 = true := rfl
theorem zy_2_3 : z_int 2 3 = true := rfl
theorem zy_3_0 : z_int 3 0 = true := rfl
theorem zy_4_3 : z_int 4 3 = true := rfl
theorem zy_5_1 : z_int 5 1 = true := rfl
theorem zy_5_2 : z_int 5 2 = true := rfl
theorem zy_6_5 : z_int 6 5 = true := rfl
theorem zy_6_6 : z_int 6 6 = true := rfl
theorem zy_6_7 : z_int 6 7 = true := rfl
theorem zy_6_8 : z_int 6 8 = true := rfl
theorem zy_6_9 : z_int 6 9 = true := rfl
theorem zy_6_10 : z_int 6 10 = true := rfl
theorem zy_7_2 : z_int 7 2 = true := rfl
theorem zy_7_6 : z_int 7 6 = true := rfl
theorem zy_7_9 : z_int 7 9 = true := rfl
theorem zy_7_10 : z_int 7 10 = true := rfl
theorem zy_7_11 : z_int 7 11 = true := rfl
theorem zy_7_12 : z_int 7 12 = true := rfl
theorem zy_7_14 : z_int 7 14 = true := rfl
theorem zy_7_21 : z_int 7 21 = true := rfl
theorem zy_7_30 : z_int 7 30 = true := rfl
