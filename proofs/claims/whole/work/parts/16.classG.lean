/-! the class's own: burnt, use, offers -/
theorem bt_not {e b : Nat} (he : e < 4294967296) : nI e &&& (nI b ^^^ -1) = nI (e &&& (b ^^^ 4294967295)) := by
  have h1 : (-1 : Int32) = nI 4294967295 := by decide
  have h2 : ∀ x y : Nat, nI x ^^^ nI y = nI (x ^^^ y) := by
    intro x y
    apply Int32.toBitVec_inj.mp
    rw [Int32.toBitVec_xor]
    show BitVec.ofNat 32 x ^^^ BitVec.ofNat 32 y = BitVec.ofNat 32 (x ^^^ y)
    exact (BitVec.ofNat_xor).symm
  rw [h1, h2, bt_and]
theorem CR_B {T : ZT} {S : ZS} (h : CR T S) : tB T < 512 := (ab_bits_lt _ h.1.2.2.2.1.2).1
theorem tL_lt {T : ZT} {S : ZS} (h : CR T S) : tL T < 512 := Nat.lt_of_le_of_lt Nat.and_le_left (ab_every_lt (CR_x0 h))
theorem tL_le {T : ZT} {S : ZS} (h : CR T S) : tL T < 2 ^ tN T := by
  have h1 : tL T ≤ ab_every (tx0 T) := Nat.and_le_left
  have : 0 < 2 ^ tN T := Nat.two_pow_pos _
  unfold ab_every at h1
  unfold tN at *
  omega
def wp_X7_burn (T : ZT) : ZW := fun as S k => match as with
  | [.ref 0, .int v] => CR T S ∧ ∀ S', CR (u_burn T v) S' → k (some (.int (q_burn T v))) S'
  | _ => False
theorem wr_X7_burn {T : ZT} {v : Int32} {S : ZS} {k : Option Value → ZS → Prop} : (wp_X7_burn T) [.ref 0, .int v] S k = (CR T S ∧ ∀ S', CR (u_burn T v) S' → k (some (.int (q_burn T v))) S') := rfl
def cs_X7_burn : List (Nat × ZC) := [(109, (2, 0, false, wp_X1_append))]
theorem cr_X7_burn_109 : cs_X7_burn.lookup 109 = some (2, 0, false, wp_X1_append) := rfl
set_option maxRecDepth 20000 in
theorem co_X7_burn {tl : List ZE} : z_csok RX7 ({ frames := 3, cells := 0, slots := 0, locals := 64 } : Room) (z_shC tl) cs_X7_burn := z_cs2 (z_csV ok_X1_append rec_X1_append rfl (z_g 336 (by decide +kernel) rfl) (z_g 337 (by decide +kernel) rfl) (z_g 338 (by decide +kernel) rfl) (z_g 339 (by decide +kernel) rfl) (z_g 48 (by decide +kernel) rfl) rfl rfl (by decide +kernel) ⟨by decide, by decide⟩)
  (z_cs0)
set_option maxHeartbeats 4000000 in
set_option maxRecDepth 20000 in
theorem pu_X7_burn (T : ZT) {tl : List ZE} : z_Pure cX7_burn 2 (z_shC tl) z_fX7 cs_X7_burn z_kcX7 z_klX7 (some .int) 0 (wp_X7_burn T) := by
  intro as S post h
  unfold wp_X7_burn at h
  split at h
  · rename_i v
    refine ⟨Nat.le_of_ble_eq_true rfl, fun K hK => ?_⟩
    change K 0 0 [some (.ref 0), some (.int v)] [] S
    obtain ⟨hC, hk⟩ := h
    obtain ⟨h1, h2⟩ := CR_brn hC
    refine hK (z_in []) 100 _ _ _ _ _ (Nat.zero_le _) ?_
    simp (config := { maxSteps := 10000000 }) only [z40, z20, z10, z01, zm0, z0m, ze_s, ze_ok, zt_s, zt_t, zt_f, zl_I, zl_J, zl_R, zl_N, zl_C, zl_K, zl_M, zl_ar0, zl_ar1, zl_ar2, zl_ar3, zl_as0, zl_as1, zl_as2, zl_al, zl_gf, zl_gr, zl_pf, zl_iv, zl_ivn, zlk_n, zlk_c, ztb_n, ztb_c, zin_n, zin_1, zin_c, Int.reduceLT, decide_true, decide_false, Bool.true_and, Bool.and_true, List.length_cons, List.length_nil, Int.reduceSub, Int.reduceEq, Int.natCast_zero, zk_s, z_in_n, z_in_c, z_gt_0, z_gt_s, zst_0, zst_1, zst_s, zsl_0, zsl_1, zsl_s, zc_n, zc_i, zc_l, zc_r, zc_u, zca_n, zca_i, zca_l, zca_r, zca_u, zrt_i, zrt_z, zrt_o, z_cal_0, z_cal_s, true_and, and_true, List.nil_append, List.cons_append, Option.toList_some, Option.toList_none, Nat.reduceAdd, Nat.reduceBEq, Nat.reduceLT, Nat.reduceLeDiff, Nat.reduceSub, Int.reduceAdd, Int.reduceLE, Int.reduceToNat, Int.cast_ofNat_Int, Bool.or_true, Bool.true_or, Bool.or_false, Bool.false_or, Nat.le_refl, Nat.zero_le, or_true, true_or, or_false, false_or, not_true_eq_false, not_false_eq_true, not_false_iff, false_implies, true_implies, eq_self, zo_iconst, zo_bipush, zo_sipush, zo_lconst, zo_ldc, zo_ldc_w, zo_ldc2_w, zo_iload_n, zo_iload, zo_lload_n, zo_lload, zo_aload_n, zo_aload, zo_istore_n, zo_istore, zo_lstore_n, zo_lstore, zo_astore_n, zo_astore, zo_iinc, zo_iadd, zo_isub, zo_imul, zo_iand, zo_ior, zo_ixor, zo_ishl, zo_ishr, zo_iushr, zo_idiv, zo_irem, zo_ladd, zo_lsub, zo_lmul, zo_ldiv, zo_lrem, zo_lcmp, zo_i2l, zo_i2b, zo_i2s, zo_dup, zo_dup2, zo_aconst_null, zo_if_icmp, zo_ifCond, zo_goto, zo_ifnull, zo_ifnonnull, zo_iaload, zo_baload, zo_laload, zo_aaload, zo_iastore, zo_bastore, zo_lastore, zo_arraylength, zo_getfield, zo_putfield, zo_tableswitch, zo_lookupswitch, zo_ireturn, zo_lreturn, zo_areturn, zo_return, zo_invokestatic, zo_invokevirtual, zo_new, zo_invokespecial, zo_newarray, zo_anewarray, zo_aastore, zy_0_1, zy_0_2, zy_0_3, zy_1_1, zy_1_2, zy_2_1, zy_2_2, zy_2_3, zy_3_0, zy_4_3, zy_5_1, zy_5_2, zy_6_5, zy_6_6, zy_6_7, zy_6_8, zy_6_9, zy_6_10, zy_7_2, zy_7_6, zy_7_9, zy_7_10, zy_7_11, zy_7_12, zy_7_14, zy_7_21, zy_7_30, zq_iconst, zq_bipush, zq_sipush, zq_lconst0, zq_lconst1, zq_ldc, zq_ldc_w, zq_ldc2_w, zq_iload0, zq_iload1, zq_iload2, zq_iload3, zq_iload, zq_lload0, zq_lload1, zq_lload2, zq_lload3, zq_lload, zq_aload0, zq_aload1, zq_aload2, zq_aload3, zq_aload, zq_istore0, zq_istore1, zq_istore2, zq_istore3, zq_istore, zq_lstore0, zq_lstore1, zq_lstore2, zq_lstore3, zq_lstore, zq_astore0, zq_astore0N, zq_astore1, zq_astore1N, zq_astore2, zq_astore2N, zq_astore3, zq_astore3N, zq_astore, zq_astoreN, zq_iinc, zq_iadd, zq_isub, zq_imul, zq_iand, zq_ior, zq_ixor, zq_ishl, zq_ishr, zq_iushr, zq_idiv, zq_irem, zq_ladd, zq_lsub, zq_lmul, zq_ldiv, zq_lrem, zq_lcmp, zq_i2l, zq_i2b, zq_i2s, zq_dup_i, zq_dup_r, zq_dup2, zq_null, zq_icmp_eq, zq_if_eq, zq_icmp_ne, zq_if_ne, zq_icmp_lt, zq_if_lt, zq_icmp_ge, zq_if_ge, zq_icmp_gt, zq_if_gt, zq_icmp_le, zq_if_le, zq_goto, zq_ifnull_r, zq_ifnull_n, zq_ifnonnull_r, zq_ifnonnull_n, zq_iaload, zq_baload, zq_laload, zq_aaload, zq_iastore, zq_bastore, zq_lastore, zq_alen, zq_getf, zq_put, zq_tsw, zq_lsw, zq_ireturn, zq_lreturn, zq_areturn, zq_areturnN, zq_return, zq_invokestatic, zq_invokevirtual, zq_new, zq_invokespecial, zq_newarray, zq_anewarray, zq_aastore, zi_m1, zi_0, zi_1, zi_2, zi_3, zi_4, zi_5, zi_6, zi_8, zi_16, zb_m10, zb_m4, zb_m3, zb_m2, zb_6, zb_7, zb_8, zb_9, zb_10, zb_16, zb_20, zb_23, zb_30, zb_32, zb_35, zb_46, zb_48, zb_56, zb_57, zb_59, zb_63, zb_70, zb_98, zb_99, zb_100, zb_111, zb_112, zs_192, zs_255, zs_256, zs_511, zs_512, zs_12345, zf_X7_10_0, zf_X7_19_0, zf_X7_26_0, zf_X7_33_0, zf_X7_39_0, zf_X7_43_0, zf_X7_47_0, zf_X7_50_0, zf_X7_53_0, zf_X7_56_0, zf_X7_59_0, zkc_X7_223, zkl_X7_313, zkl_X7_240, zkl_X7_305, za_C_2, za_C_3, za_C_4, za_C_5, za_C_6, za_C_8, za_C_9, za_C_10, za_C_12, za_C_14, za_C_15, za_C_16, za_C_17, za_C_22, za_C_23, za_C_24, za_C_25, dX7_burn_0, dX7_burn_1, dX7_burn_4, dX7_burn_5, dX7_burn_8, cr_X7_burn_109, wr_X1_append]
    refine ⟨tnb T, tod T, h1, h2, fun b e hb hf hn S' r1 r2 r3 => ?_, fun q => ?_⟩
    · have c : i_in v 9 ∧ (tB T).testBit (cn v) = false := by
        subst e
        exact ⟨(i_inN (by omega)).mpr (by omega), by rw [show cn (nI b) = b from n_cl (by omega)]; exact hf⟩
      have ecn : cn v = b := by subst e; exact n_cl (by omega)
      have g1 : q_burn T v = nI (tnb T + 1) := by unfold q_burn; rw [if_pos c]
      have g2 : u_burn T v = wBr T (tnb T + 1, va_up (tod T) (tnb T) b) := by unfold u_burn; rw [if_pos c, ecn]
      rw [g1, g2] at hk
      exact hk S' (CR_bur hC r1 r2 r3)
    · have c : ¬ (i_in v 9 ∧ (tB T).testBit (cn v) = false) := by
        rintro ⟨a, b⟩
        obtain ⟨e, hl⟩ := i_inI a (by omega)
        exact q ⟨cn v, e, by omega, b⟩
      have g1 : q_burn T v = -2 := by unfold q_burn; rw [if_neg c]
      have g2 : u_burn T v = T := by unfold u_burn; rw [if_neg c]
      rw [g1, g2] at hk
      exact hk S hC
  · exact h.elim
theorem ok_X7_burn (T : ZT) {tl : List ZE} : z_Ok (z_shC tl) yX7_burn cX7_burn 2 (some .int) ({ frames := 3, cells := 0, slots := 0, locals := 64 } : Room) 0 (wp_X7_burn T) := z_Ok_of (pu_X7_burn T) z_fX7_ok z_kX7_ok co_X7_burn ⟨by decide, by decide⟩ (by decide +kernel)
theorem rec_X7_burn (T : ZT) {tl : List ZE} : z_rec (z_shC tl) (wp_X7_burn T) 6 := by
  intro as S post h
  unfold wp_X7_burn at h
  split at h
  · exact ⟨_, _, _, rfl, rfl⟩
  · exact h.elim
def wp_X7_back (T : ZT) : ZW := fun as S k => match as with
  | [.ref 0] => CR T S ∧ ∀ S', CR (u_back T) S' → k (some (.int (q_back T))) S'
  | _ => False
theorem wr_X7_back {T : ZT} {S : ZS} {k : Option Value → ZS → Prop} : (wp_X7_back T) [.ref 0] S k = (CR T S ∧ ∀ S', CR (u_back T) S' → k (some (.int (q_back T))) S') := rfl
def cs_X7_back : List (Nat × ZC) := [(110, (1, 0, false, wp_X1_dropLast))]
theorem cr_X7_back_110 : cs_X7_back.lookup 110 = some (1, 0, false, wp_X1_dropLast) := rfl
set_option maxRecDepth 20000 in
theorem co_X7_back {tl : List ZE} : z_csok RX7 ({ frames := 2, cells := 0, slots := 0, locals := 42 } : Room) (z_shC tl) cs_X7_back := z_cs2 (z_csV ok_X1_dropLast rec_X1_dropLast rfl (z_g 348 (by decide +kernel) rfl) (z_g 349 (by decide +kernel) rfl) (z_g 350 (by decide +kernel) rfl) (z_g 351 (by decide +kernel) rfl) (z_g 48 (by decide +kernel) rfl) rfl rfl (by decide +kernel) ⟨by decide, by decide⟩)
  (z_cs0)
set_option maxHeartbeats 4000000 in
set_option maxRecDepth 20000 in
theorem pu_X7_back (T : ZT) {tl : List ZE} : z_Pure cX7_back 1 (z_shC tl) z_fX7 cs_X7_back z_kcX7 z_klX7 (some .int) 0 (wp_X7_back T) := by
  intro as S post h
  unfold wp_X7_back at h
  split at h
  · skip
    refine ⟨Nat.le_of_ble_eq_true rfl, fun K hK => ?_⟩
    change K 0 0 [some (.ref 0)] [] S
    obtain ⟨hC, hk⟩ := h
    obtain ⟨h1, h2⟩ := CR_brn hC
    refine hK (z_in []) 100 _ _ _ _ _ (Nat.zero_le _) ?_
    simp (config := { maxSteps := 10000000 }) only [z40, z20, z10, z01, zm0, z0m, ze_s, ze_ok, zt_s, zt_t, zt_f, zl_I, zl_J, zl_R, zl_N, zl_C, zl_K, zl_M, zl_ar0, zl_ar1, zl_ar2, zl_ar3, zl_as0, zl_as1, zl_as2, zl_al, zl_gf, zl_gr, zl_pf, zl_iv, zl_ivn, zlk_n, zlk_c, ztb_n, ztb_c, zin_n, zin_1, zin_c, Int.reduceLT, decide_true, decide_false, Bool.true_and, Bool.and_true, List.length_cons, List.length_nil, Int.reduceSub, Int.reduceEq, Int.natCast_zero, zk_s, z_in_n, z_in_c, z_gt_0, z_gt_s, zst_0, zst_1, zst_s, zsl_0, zsl_1, zsl_s, zc_n, zc_i, zc_l, zc_r, zc_u, zca_n, zca_i, zca_l, zca_r, zca_u, zrt_i, zrt_z, zrt_o, z_cal_0, z_cal_s, true_and, and_true, List.nil_append, List.cons_append, Option.toList_some, Option.toList_none, Nat.reduceAdd, Nat.reduceBEq, Nat.reduceLT, Nat.reduceLeDiff, Nat.reduceSub, Int.reduceAdd, Int.reduceLE, Int.reduceToNat, Int.cast_ofNat_Int, Bool.or_true, Bool.true_or, Bool.or_false, Bool.false_or, Nat.le_refl, Nat.zero_le, or_true, true_or, or_false, false_or, not_true_eq_false, not_false_eq_true, not_false_iff, false_implies, true_implies, eq_self, zo_iconst, zo_bipush, zo_sipush, zo_lconst, zo_ldc, zo_ldc_w, zo_ldc2_w, zo_iload_n, zo_iload, zo_lload_n, zo_lload, zo_aload_n, zo_aload, zo_istore_n, zo_istore, zo_lstore_n, zo_lstore, zo_astore_n, zo_astore, zo_iinc, zo_iadd, zo_isub, zo_imul, zo_iand, zo_ior, zo_ixor, zo_ishl, zo_ishr, zo_iushr, zo_idiv, zo_irem, zo_ladd, zo_lsub, zo_lmul, zo_ldiv, zo_lrem, zo_lcmp, zo_i2l, zo_i2b, zo_i2s, zo_dup, zo_dup2, zo_aconst_null, zo_if_icmp, zo_ifCond, zo_goto, zo_ifnull, zo_ifnonnull, zo_iaload, zo_baload, zo_laload, zo_aaload, zo_iastore, zo_bastore, zo_lastore, zo_arraylength, zo_getfield, zo_putfield, zo_tableswitch, zo_lookupswitch, zo_ireturn, zo_lreturn, zo_areturn, zo_return, zo_invokestatic, zo_invokevirtual, zo_new, zo_invokespecial, zo_newarray, zo_anewarray, zo_aastore, zy_0_1, zy_0_2, zy_0_3, zy_1_1, zy_1_2, zy_2_1, zy_2_2, zy_2_3, zy_3_0, zy_4_3, zy_5_1, zy_5_2, zy_6_5, zy_6_6, zy_6_7, zy_6_8, zy_6_9, zy_6_10, zy_7_2, zy_7_6, zy_7_9, zy_7_10, zy_7_11, zy_7_12, zy_7_14, zy_7_21, zy_7_30, zq_iconst, zq_bipush, zq_sipush, zq_lconst0, zq_lconst1, zq_ldc, zq_ldc_w, zq_ldc2_w, zq_iload0, zq_iload1, zq_iload2, zq_iload3, zq_iload, zq_lload0, zq_lload1, zq_lload2, zq_lload3, zq_lload, zq_aload0, zq_aload1, zq_aload2, zq_aload3, zq_aload, zq_istore0, zq_istore1, zq_istore2, zq_istore3, zq_istore, zq_lstore0, zq_lstore1, zq_lstore2, zq_lstore3, zq_lstore, zq_astore0, zq_astore0N, zq_astore1, zq_astore1N, zq_astore2, zq_astore2N, zq_astore3, zq_astore3N, zq_astore, zq_astoreN, zq_iinc, zq_iadd, zq_isub, zq_imul, zq_iand, zq_ior, zq_ixor, zq_ishl, zq_ishr, zq_iushr, zq_idiv, zq_irem, zq_ladd, zq_lsub, zq_lmul, zq_ldiv, zq_lrem, zq_lcmp, zq_i2l, zq_i2b, zq_i2s, zq_dup_i, zq_dup_r, zq_dup2, zq_null, zq_icmp_eq, zq_if_eq, zq_icmp_ne, zq_if_ne, zq_icmp_lt, zq_if_lt, zq_icmp_ge, zq_if_ge, zq_icmp_gt, zq_if_gt, zq_icmp_le, zq_if_le, zq_goto, zq_ifnull_r, zq_ifnull_n, zq_ifnonnull_r, zq_ifnonnull_n, zq_iaload, zq_baload, zq_laload, zq_aaload, zq_iastore, zq_bastore, zq_lastore, zq_alen, zq_getf, zq_put, zq_tsw, zq_lsw, zq_ireturn, zq_lreturn, zq_areturn, zq_areturnN, zq_return, zq_invokestatic, zq_invokevirtual, zq_new, zq_invokespecial, zq_newarray, zq_anewarray, zq_aastore, zi_m1, zi_0, zi_1, zi_2, zi_3, zi_4, zi_5, zi_6, zi_8, zi_16, zb_m10, zb_m4, zb_m3, zb_m2, zb_6, zb_7, zb_8, zb_9, zb_10, zb_16, zb_20, zb_23, zb_30, zb_32, zb_35, zb_46, zb_48, zb_56, zb_57, zb_59, zb_63, zb_70, zb_98, zb_99, zb_100, zb_111, zb_112, zs_192, zs_255, zs_256, zs_511, zs_512, zs_12345, zf_X7_10_0, zf_X7_19_0, zf_X7_26_0, zf_X7_33_0, zf_X7_39_0, zf_X7_43_0, zf_X7_47_0, zf_X7_50_0, zf_X7_53_0, zf_X7_56_0, zf_X7_59_0, zkc_X7_223, zkl_X7_313, zkl_X7_240, zkl_X7_305, za_C_2, za_C_3, za_C_4, za_C_5, za_C_6, za_C_8, za_C_9, za_C_10, za_C_12, za_C_14, za_C_15, za_C_16, za_C_17, za_C_22, za_C_23, za_C_24, za_C_25, dX7_back_0, dX7_back_1, dX7_back_4, dX7_back_7, cr_X7_back_110, wr_X1_dropLast]
    refine ⟨tnb T, tod T, h1, h2, fun e => ?_, fun e S' r1 r2 r3 => ?_⟩
    · have g1 : q_back T = -3 := by unfold q_back; rw [if_pos e]
      have g2 : u_back T = T := by unfold u_back wBr; rw [e, Nat.zero_sub, ← e]
      rw [g1, g2] at hk
      exact hk S hC
    · have g1 : q_back T = nI (tnb T - 1) := by unfold q_back; rw [if_neg (by omega)]
      rw [g1] at hk
      exact hk S' (CR_bur hC r1 r2 r3)
  · exact h.elim
theorem ok_X7_back (T : ZT) {tl : List ZE} : z_Ok (z_shC tl) yX7_back cX7_back 1 (some .int) ({ frames := 2, cells := 0, slots := 0, locals := 42 } : Room) 0 (wp_X7_back T) := z_Ok_of (pu_X7_back T) z_fX7_ok z_kX7_ok co_X7_back ⟨by decide, by decide⟩ (by decide +kernel)
theorem rec_X7_back (T : ZT) {tl : List ZE} : z_rec (z_shC tl) (wp_X7_back T) 6 := by
  intro as S post h
  unfold wp_X7_back at h
  split at h
  · exact ⟨_, _, _, rfl, rfl⟩
  · exact h.elim
def wp_X7_left (T : ZT) : ZW := fun as S k => match as with
  | [.ref 0] => CR T S ∧ k (some (.int (nI (tL T)))) S
  | _ => False
theorem wr_X7_left {T : ZT} {S : ZS} {k : Option Value → ZS → Prop} : (wp_X7_left T) [.ref 0] S k = (CR T S ∧ k (some (.int (nI (tL T)))) S) := rfl
def cs_X7_left : List (Nat × ZC) := [(128, (1, 0, false, wp_X2_every_B)), (131, (1, 0, false, wp_X1_bits))]
theorem cr_X7_left_128 : cs_X7_left.lookup 128 = some (1, 0, false, wp_X2_every_B) := rfl
theorem cr_X7_left_131 : cs_X7_left.lookup 131 = some (1, 0, false, wp_X1_bits) := rfl
set_option maxRecDepth 20000 in
theorem co_X7_left {tl : List ZE} : z_csok RX7 ({ frames := 1, cells := 0, slots := 0, locals := 20 } : Room) (z_shC tl) cs_X7_left := z_cs2 (z_csU (owner := "NineBooks$Entries") (x := ⟨"NineBooks$Books", "every", "()I"⟩) ok_X2_every_B rec_X2_every_B rfl (Or.inl (z_gn 387 (by decide +kernel) rfl)) (z_g 385 (by decide +kernel) rfl) (z_g 389 (by decide +kernel) rfl) (z_g 388 (by decide +kernel) rfl) (z_g 390 (by decide +kernel) rfl) (z_g 45 (by decide +kernel) rfl) (z_g 386 (by decide +kernel) rfl) rfl rfl (by decide +kernel) ⟨by decide, by decide⟩)
  (z_cs2 (z_csV ok_X1_bits rec_X1_bits rfl (z_g 391 (by decide +kernel) rfl) (z_g 392 (by decide +kernel) rfl) (z_g 393 (by decide +kernel) rfl) (z_g 394 (by decide +kernel) rfl) (z_g 48 (by decide +kernel) rfl) rfl rfl (by decide +kernel) ⟨by decide, by decide⟩)
  (z_cs0))
set_option maxHeartbeats 4000000 in
set_option maxRecDepth 20000 in
theorem pu_X7_left (T : ZT) {tl : List ZE} : z_Pure cX7_left 1 (z_shC tl) z_fX7 cs_X7_left z_kcX7 z_klX7 (some .int) 0 (wp_X7_left T) := by
  intro as S post h
  unfold wp_X7_left at h
  split at h
  · skip
    refine ⟨Nat.le_of_ble_eq_true rfl, fun K hK => ?_⟩
    change K 0 0 [some (.ref 0)] [] S
    obtain ⟨hC, hk⟩ := h
    refine hK (z_in []) 100 _ _ _ _ _ (Nat.zero_le _) ?_
    simp (config := { maxSteps := 10000000 }) only [z40, z20, z10, z01, zm0, z0m, ze_s, ze_ok, zt_s, zt_t, zt_f, zl_I, zl_J, zl_R, zl_N, zl_C, zl_K, zl_M, zl_ar0, zl_ar1, zl_ar2, zl_ar3, zl_as0, zl_as1, zl_as2, zl_al, zl_gf, zl_gr, zl_pf, zl_iv, zl_ivn, zlk_n, zlk_c, ztb_n, ztb_c, zin_n, zin_1, zin_c, Int.reduceLT, decide_true, decide_false, Bool.true_and, Bool.and_true, List.length_cons, List.length_nil, Int.reduceSub, Int.reduceEq, Int.natCast_zero, zk_s, z_in_n, z_in_c, z_gt_0, z_gt_s, zst_0, zst_1, zst_s, zsl_0, zsl_1, zsl_s, zc_n, zc_i, zc_l, zc_r, zc_u, zca_n, zca_i, zca_l, zca_r, zca_u, zrt_i, zrt_z, zrt_o, z_cal_0, z_cal_s, true_and, and_true, List.nil_append, List.cons_append, Option.toList_some, Option.toList_none, Nat.reduceAdd, Nat.reduceBEq, Nat.reduceLT, Nat.reduceLeDiff, Nat.reduceSub, Int.reduceAdd, Int.reduceLE, Int.reduceToNat, Int.cast_ofNat_Int, Bool.or_true, Bool.true_or, Bool.or_false, Bool.false_or, Nat.le_refl, Nat.zero_le, or_true, true_or, or_false, false_or, not_true_eq_false, not_false_eq_true, not_false_iff, false_implies, true_implies, eq_self, zo_iconst, zo_bipush, zo_sipush, zo_lconst, zo_ldc, zo_ldc_w, zo_ldc2_w, zo_iload_n, zo_iload, zo_lload_n, zo_lload, zo_aload_n, zo_aload, zo_istore_n, zo_istore, zo_lstore_n, zo_lstore, zo_astore_n, zo_astore, zo_iinc, zo_iadd, zo_isub, zo_imul, zo_iand, zo_ior, zo_ixor, zo_ishl, zo_ishr, zo_iushr, zo_idiv, zo_irem, zo_ladd, zo_lsub, zo_lmul, zo_ldiv, zo_lrem, zo_lcmp, zo_i2l, zo_i2b, zo_i2s, zo_dup, zo_dup2, zo_aconst_null, zo_if_icmp, zo_ifCond, zo_goto, zo_ifnull, zo_ifnonnull, zo_iaload, zo_baload, zo_laload, zo_aaload, zo_iastore, zo_bastore, zo_lastore, zo_arraylength, zo_getfield, zo_putfield, zo_tableswitch, zo_lookupswitch, zo_ireturn, zo_lreturn, zo_areturn, zo_return, zo_invokestatic, zo_invokevirtual, zo_new, zo_invokespecial, zo_newarray, zo_anewarray, zo_aastore, zy_0_1, zy_0_2, zy_0_3, zy_1_1, zy_1_2, zy_2_1, zy_2_2, zy_2_3, zy_3_0, zy_4_3, zy_5_1, zy_5_2, zy_6_5, zy_6_6, zy_6_7, zy_6_8, zy_6_9, zy_6_10, zy_7_2, zy_7_6, zy_7_9, zy_7_10, zy_7_11, zy_7_12, zy_7_14, zy_7_21, zy_7_30, zq_iconst, zq_bipush, zq_sipush, zq_lconst0, zq_lconst1, zq_ldc, zq_ldc_w, zq_ldc2_w, zq_iload0, zq_iload1, zq_iload2, zq_iload3, zq_iload, zq_lload0, zq_lload1, zq_lload2, zq_lload3, zq_lload, zq_aload0, zq_aload1, zq_aload2, zq_aload3, zq_aload, zq_istore0, zq_istore1, zq_istore2, zq_istore3, zq_istore, zq_lstore0, zq_lstore1, zq_lstore2, zq_lstore3, zq_lstore, zq_astore0, zq_astore0N, zq_astore1, zq_astore1N, zq_astore2, zq_astore2N, zq_astore3, zq_astore3N, zq_astore, zq_astoreN, zq_iinc, zq_iadd, zq_isub, zq_imul, zq_iand, zq_ior, zq_ixor, zq_ishl, zq_ishr, zq_iushr, zq_idiv, zq_irem, zq_ladd, zq_lsub, zq_lmul, zq_ldiv, zq_lrem, zq_lcmp, zq_i2l, zq_i2b, zq_i2s, zq_dup_i, zq_dup_r, zq_dup2, zq_null, zq_icmp_eq, zq_if_eq, zq_icmp_ne, zq_if_ne, zq_icmp_lt, zq_if_lt, zq_icmp_ge, zq_if_ge, zq_icmp_gt, zq_if_gt, zq_icmp_le, zq_if_le, zq_goto, zq_ifnull_r, zq_ifnull_n, zq_ifnonnull_r, zq_ifnonnull_n, zq_iaload, zq_baload, zq_laload, zq_aaload, zq_iastore, zq_bastore, zq_lastore, zq_alen, zq_getf, zq_put, zq_tsw, zq_lsw, zq_ireturn, zq_lreturn, zq_areturn, zq_areturnN, zq_return, zq_invokestatic, zq_invokevirtual, zq_new, zq_invokespecial, zq_newarray, zq_anewarray, zq_aastore, zi_m1, zi_0, zi_1, zi_2, zi_3, zi_4, zi_5, zi_6, zi_8, zi_16, zb_m10, zb_m4, zb_m3, zb_m2, zb_6, zb_7, zb_8, zb_9, zb_10, zb_16, zb_20, zb_23, zb_30, zb_32, zb_35, zb_46, zb_48, zb_56, zb_57, zb_59, zb_63, zb_70, zb_98, zb_99, zb_100, zb_111, zb_112, zs_192, zs_255, zs_256, zs_511, zs_512, zs_12345, zf_X7_10_0, zf_X7_19_0, zf_X7_26_0, zf_X7_33_0, zf_X7_39_0, zf_X7_43_0, zf_X7_47_0, zf_X7_50_0, zf_X7_53_0, zf_X7_56_0, zf_X7_59_0, zkc_X7_223, zkl_X7_313, zkl_X7_240, zkl_X7_305, za_C_2, za_C_3, za_C_4, za_C_5, za_C_6, za_C_8, za_C_9, za_C_10, za_C_12, za_C_14, za_C_15, za_C_16, za_C_17, za_C_22, za_C_23, za_C_24, za_C_25, dX7_left_0, dX7_left_1, dX7_left_4, dX7_left_7, dX7_left_8, dX7_left_11, dX7_left_14, dX7_left_15, dX7_left_16, dX7_left_17, cr_X7_left_128, cr_X7_left_131, wr_X2_every_B, wr_X1_bits]
    rw [(CR_b hC).2.2.2.1, (CR_brn hC).2.2.1, bt_all _ (Nat.lt_succ_of_le (CR_N hC))]
    rw [show nI (2 ^ ab_num 0 (tx0 T) - 1) = nI (ab_every (tx0 T)) from rfl, bt_not (by have := ab_every_lt (CR_x0 hC); omega)]
    exact hk
  · exact h.elim
theorem ok_X7_left (T : ZT) {tl : List ZE} : z_Ok (z_shC tl) yX7_left cX7_left 1 (some .int) ({ frames := 1, cells := 0, slots := 0, locals := 20 } : Room) 0 (wp_X7_left T) := z_Ok_of (pu_X7_left T) z_fX7_ok z_kX7_ok co_X7_left ⟨by decide, by decide⟩ (by decide +kernel)
theorem rec_X7_left (T : ZT) {tl : List ZE} : z_rec (z_shC tl) (wp_X7_left T) 6 := by
  intro as S post h
  unfold wp_X7_left at h
  split at h
  · exact ⟨_, _, _, rfl, rfl⟩
  · exact h.elim
def wp_X7_use (T : ZT) : ZW := fun as S k => match as with
  | [.ref 0, .int v] => CR T S ∧ k (some (.int (q_use T v))) S
  | _ => False
theorem wr_X7_use {T : ZT} {v : Int32} {S : ZS} {k : Option Value → ZS → Prop} : (wp_X7_use T) [.ref 0, .int v] S k = (CR T S ∧ k (some (.int (q_use T v))) S) := rfl
def cs_X7_use : List (Nat × ZC) := [(134, (1, 0, true, wp_X7_isSet)), (137, (2, 0, false, wp_X0_useOf))]
theorem cr_X7_use_134 : cs_X7_use.lookup 134 = some (1, 0, true, wp_X7_isSet) := rfl
theorem cr_X7_use_137 : cs_X7_use.lookup 137 = some (2, 0, false, wp_X0_useOf) := rfl
set_option maxRecDepth 20000 in
theorem co_X7_use {tl : List ZE} : z_csok RX7 ({ frames := 2, cells := 0, slots := 0, locals := 45 } : Room) (z_shC tl) cs_X7_use := z_cs2 (z_csS ok_X7_isSet (z_g 399 (by decide +kernel) rfl) (z_g 400 (by decide +kernel) rfl) (z_g 44 (by decide +kernel) rfl) (z_g 401 (by decide +kernel) rfl) rfl rfl (by decide +kernel) ⟨by decide, by decide⟩)
  (z_cs2 (z_csV ok_X0_useOf rec_X0_useOf rfl (z_g 402 (by decide +kernel) rfl) (z_g 403 (by decide +kernel) rfl) (z_g 404 (by decide +kernel) rfl) (z_g 405 (by decide +kernel) rfl) (z_g 46 (by decide +kernel) rfl) rfl rfl (by decide +kernel) ⟨by decide, by decide⟩)
  (z_cs0))
set_option maxHeartbeats 4000000 in
set_option maxRecDepth 20000 in
theorem pu_X7_use (T : ZT) {tl : List ZE} : z_Pure cX7_use 2 (z_shC tl) z_fX7 cs_X7_use z_kcX7 z_klX7 (some .int) 0 (wp_X7_use T) := by
  intro as S post h
  unfold wp_X7_use at h
  split at h
  · rename_i v
    refine ⟨Nat.le_of_ble_eq_true rfl, fun K hK => ?_⟩
    change K 0 0 [some (.ref 0), some (.int v)] [] S
    obtain ⟨hC, hk⟩ := h
    refine hK (z_in []) 100 _ _ _ _ _ (Nat.zero_le _) ?_
    simp (config := { maxSteps := 10000000 }) only [z40, z20, z10, z01, zm0, z0m, ze_s, ze_ok, zt_s, zt_t, zt_f, zl_I, zl_J, zl_R, zl_N, zl_C, zl_K, zl_M, zl_ar0, zl_ar1, zl_ar2, zl_ar3, zl_as0, zl_as1, zl_as2, zl_al, zl_gf, zl_gr, zl_pf, zl_iv, zl_ivn, zlk_n, zlk_c, ztb_n, ztb_c, zin_n, zin_1, zin_c, Int.reduceLT, decide_true, decide_false, Bool.true_and, Bool.and_true, List.length_cons, List.length_nil, Int.reduceSub, Int.reduceEq, Int.natCast_zero, zk_s, z_in_n, z_in_c, z_gt_0, z_gt_s, zst_0, zst_1, zst_s, zsl_0, zsl_1, zsl_s, zc_n, zc_i, zc_l, zc_r, zc_u, zca_n, zca_i, zca_l, zca_r, zca_u, zrt_i, zrt_z, zrt_o, z_cal_0, z_cal_s, true_and, and_true, List.nil_append, List.cons_append, Option.toList_some, Option.toList_none, Nat.reduceAdd, Nat.reduceBEq, Nat.reduceLT, Nat.reduceLeDiff, Nat.reduceSub, Int.reduceAdd, Int.reduceLE, Int.reduceToNat, Int.cast_ofNat_Int, Bool.or_true, Bool.true_or, Bool.or_false, Bool.false_or, Nat.le_refl, Nat.zero_le, or_true, true_or, or_false, false_or, not_true_eq_false, not_false_eq_true, not_false_iff, false_implies, true_implies, eq_self, zo_iconst, zo_bipush, zo_sipush, zo_lconst, zo_ldc, zo_ldc_w, zo_ldc2_w, zo_iload_n, zo_iload, zo_lload_n, zo_lload, zo_aload_n, zo_aload, zo_istore_n, zo_istore, zo_lstore_n, zo_lstore, zo_astore_n, zo_astore, zo_iinc, zo_iadd, zo_isub, zo_imul, zo_iand, zo_ior, zo_ixor, zo_ishl, zo_ishr, zo_iushr, zo_idiv, zo_irem, zo_ladd, zo_lsub, zo_lmul, zo_ldiv, zo_lrem, zo_lcmp, zo_i2l, zo_i2b, zo_i2s, zo_dup, zo_dup2, zo_aconst_null, zo_if_icmp, zo_ifCond, zo_goto, zo_ifnull, zo_ifnonnull, zo_iaload, zo_baload, zo_laload, zo_aaload, zo_iastore, zo_bastore, zo_lastore, zo_arraylength, zo_getfield, zo_putfield, zo_tableswitch, zo_lookupswitch, zo_ireturn, zo_lreturn, zo_areturn, zo_return, zo_invokestatic, zo_invokevirtual, zo_new, zo_invokespecial, zo_newarray, zo_anewarray, zo_aastore, zy_0_1, zy_0_2, zy_0_3, zy_1_1, zy_1_2, zy_2_1, zy_2_2, zy_2_3, zy_3_0, zy_4_3, zy_5_1, zy_5_2, zy_6_5, zy_6_6, zy_6_7, zy_6_8, zy_6_9, zy_6_10, zy_7_2, zy_7_6, zy_7_9, zy_7_10, zy_7_11, zy_7_12, zy_7_14, zy_7_21, zy_7_30, zq_iconst, zq_bipush, zq_sipush, zq_lconst0, zq_lconst1, zq_ldc, zq_ldc_w, zq_ldc2_w, zq_iload0, zq_iload1, zq_iload2, zq_iload3, zq_iload, zq_lload0, zq_lload1, zq_lload2, zq_lload3, zq_lload, zq_aload0, zq_aload1, zq_aload2, zq_aload3, zq_aload, zq_istore0, zq_istore1, zq_istore2, zq_istore3, zq_istore, zq_lstore0, zq_lstore1, zq_lstore2, zq_lstore3, zq_lstore, zq_astore0, zq_astore0N, zq_astore1, zq_astore1N, zq_astore2, zq_astore2N, zq_astore3, zq_astore3N, zq_astore, zq_astoreN, zq_iinc, zq_iadd, zq_isub, zq_imul, zq_iand, zq_ior, zq_ixor, zq_ishl, zq_ishr, zq_iushr, zq_idiv, zq_irem, zq_ladd, zq_lsub, zq_lmul, zq_ldiv, zq_lrem, zq_lcmp, zq_i2l, zq_i2b, zq_i2s, zq_dup_i, zq_dup_r, zq_dup2, zq_null, zq_icmp_eq, zq_if_eq, zq_icmp_ne, zq_if_ne, zq_icmp_lt, zq_if_lt, zq_icmp_ge, zq_if_ge, zq_icmp_gt, zq_if_gt, zq_icmp_le, zq_if_le, zq_goto, zq_ifnull_r, zq_ifnull_n, zq_ifnonnull_r, zq_ifnonnull_n, zq_iaload, zq_baload, zq_laload, zq_aaload, zq_iastore, zq_bastore, zq_lastore, zq_alen, zq_getf, zq_put, zq_tsw, zq_lsw, zq_ireturn, zq_lreturn, zq_areturn, zq_areturnN, zq_return, zq_invokestatic, zq_invokevirtual, zq_new, zq_invokespecial, zq_newarray, zq_anewarray, zq_aastore, zi_m1, zi_0, zi_1, zi_2, zi_3, zi_4, zi_5, zi_6, zi_8, zi_16, zb_m10, zb_m4, zb_m3, zb_m2, zb_6, zb_7, zb_8, zb_9, zb_10, zb_16, zb_20, zb_23, zb_30, zb_32, zb_35, zb_46, zb_48, zb_56, zb_57, zb_59, zb_63, zb_70, zb_98, zb_99, zb_100, zb_111, zb_112, zs_192, zs_255, zs_256, zs_511, zs_512, zs_12345, zf_X7_10_0, zf_X7_19_0, zf_X7_26_0, zf_X7_33_0, zf_X7_39_0, zf_X7_43_0, zf_X7_47_0, zf_X7_50_0, zf_X7_53_0, zf_X7_56_0, zf_X7_59_0, zkc_X7_223, zkl_X7_313, zkl_X7_240, zkl_X7_305, za_C_2, za_C_3, za_C_4, za_C_5, za_C_6, za_C_8, za_C_9, za_C_10, za_C_12, za_C_14, za_C_15, za_C_16, za_C_17, za_C_22, za_C_23, za_C_24, za_C_25, dX7_use_0, dX7_use_1, dX7_use_4, dX7_use_7, dX7_use_8, dX7_use_11, dX7_use_12, dX7_use_15, dX7_use_18, dX7_use_20, cr_X7_use_134, cr_X7_use_137, wr_X7_isSet, wr_X0_useOf]
    have e1 : (0 ≤ v ∧ v ≤ 511) ↔ i_in v 512 := w_in (m := 511) (by decide)
    rw [e1]
    unfold q_use at hk
    refine ⟨fun c => ?_, fun c => ?_⟩
    · obtain ⟨eb, hb⟩ := i_inI c (by omega)
      rw [if_pos c] at hk
      exact ⟨tx0 T, cn v, eb, CR_x0 hC, CR_b hC, hk⟩
    · rw [if_neg c] at hk; exact hk
  · exact h.elim
theorem ok_X7_use (T : ZT) {tl : List ZE} : z_Ok (z_shC tl) yX7_use cX7_use 2 (some .int) ({ frames := 2, cells := 0, slots := 0, locals := 45 } : Room) 0 (wp_X7_use T) := z_Ok_of (pu_X7_use T) z_fX7_ok z_kX7_ok co_X7_use ⟨by decide, by decide⟩ (by decide +kernel)
theorem rec_X7_use (T : ZT) {tl : List ZE} : z_rec (z_shC tl) (wp_X7_use T) 6 := by
  intro as S post h
  unfold wp_X7_use at h
  split at h
  · exact ⟨_, _, _, rfl, rfl⟩
  · exact h.elim
def wp_X7_gainOf (T : ZT) : ZW := fun as S k => match as with
  | [.ref 0, .int a, .int b] => ∃ j s : Nat, CR T S ∧ a = nI j ∧ b = nI s ∧ j < tM T ∧ k (some (.int (nI (tG T j s)))) S
  | _ => False
theorem wr_X7_gainOf {T : ZT} {a : Int32} {b : Int32} {S : ZS} {k : Option Value → ZS → Prop} : (wp_X7_gainOf T) [.ref 0, .int a, .int b] S k = (∃ j s : Nat, CR T S ∧ a = nI j ∧ b = nI s ∧ j < tM T ∧ k (some (.int (nI (tG T j s)))) S) := rfl
def cs_X7_gainOf : List (Nat × ZC) := [(106, (2, 0, false, wp_X3_need)), (137, (2, 0, false, wp_X0_useOf))]
theorem cr_X7_gainOf_106 : cs_X7_gainOf.lookup 106 = some (2, 0, false, wp_X3_need) := rfl
theorem cr_X7_gainOf_137 : cs_X7_gainOf.lookup 137 = some (2, 0, false, wp_X0_useOf) := rfl
set_option maxRecDepth 20000 in
theorem co_X7_gainOf {tl : List ZE} : z_csok RX7 ({ frames := 2, cells := 0, slots := 0, locals := 45 } : Room) (z_shC tl) cs_X7_gainOf := z_cs2 (z_csV ok_X3_need rec_X3_need rfl (z_g 324 (by decide +kernel) rfl) (z_g 325 (by decide +kernel) rfl) (z_g 326 (by decide +kernel) rfl) (z_g 327 (by decide +kernel) rfl) (z_g 47 (by decide +kernel) rfl) rfl rfl (by decide +kernel) ⟨by decide, by decide⟩)
  (z_cs2 (z_csV ok_X0_useOf rec_X0_useOf rfl (z_g 402 (by decide +kernel) rfl) (z_g 403 (by decide +kernel) rfl) (z_g 404 (by decide +kernel) rfl) (z_g 405 (by decide +kernel) rfl) (z_g 46 (by decide +kernel) rfl) rfl rfl (by decide +kernel) ⟨by decide, by decide⟩)
  (z_cs0))
set_option maxHeartbeats 4000000 in
set_option maxRecDepth 20000 in
theorem pu_X7_gainOf (T : ZT) {tl : List ZE} : z_Pure cX7_gainOf 3 (z_shC tl) z_fX7 cs_X7_gainOf z_kcX7 z_klX7 (some .int) 0 (wp_X7_gainOf T) := by
  intro as S post h
  unfold wp_X7_gainOf at h
  split at h
  · rename_i a b
    refine ⟨Nat.le_of_ble_eq_true rfl, fun K hK => ?_⟩
    change K 0 0 [some (.ref 0), some (.int a), some (.int b)] [] S
    obtain ⟨j, s, hC, rfl, rfl, hj, hk⟩ := h
    refine hK (z_in []) 100 _ _ _ _ _ (Nat.zero_le _) ?_
    simp (config := { maxSteps := 10000000 }) only [z40, z20, z10, z01, zm0, z0m, ze_s, ze_ok, zt_s, zt_t, zt_f, zl_I, zl_J, zl_R, zl_N, zl_C, zl_K, zl_M, zl_ar0, zl_ar1, zl_ar2, zl_ar3, zl_as0, zl_as1, zl_as2, zl_al, zl_gf, zl_gr, zl_pf, zl_iv, zl_ivn, zlk_n, zlk_c, ztb_n, ztb_c, zin_n, zin_1, zin_c, Int.reduceLT, decide_true, decide_false, Bool.true_and, Bool.and_true, List.length_cons, List.length_nil, Int.reduceSub, Int.reduceEq, Int.natCast_zero, zk_s, z_in_n, z_in_c, z_gt_0, z_gt_s, zst_0, zst_1, zst_s, zsl_0, zsl_1, zsl_s, zc_n, zc_i, zc_l, zc_r, zc_u, zca_n, zca_i, zca_l, zca_r, zca_u, zrt_i, zrt_z, zrt_o, z_cal_0, z_cal_s, true_and, and_true, List.nil_append, List.cons_append, Option.toList_some, Option.toList_none, Nat.reduceAdd, Nat.reduceBEq, Nat.reduceLT, Nat.reduceLeDiff, Nat.reduceSub, Int.reduceAdd, Int.reduceLE, Int.reduceToNat, Int.cast_ofNat_Int, Bool.or_true, Bool.true_or, Bool.or_false, Bool.false_or, Nat.le_refl, Nat.zero_le, or_true, true_or, or_false, false_or, not_true_eq_false, not_false_eq_true, not_false_iff, false_implies, true_implies, eq_self, zo_iconst, zo_bipush, zo_sipush, zo_lconst, zo_ldc, zo_ldc_w, zo_ldc2_w, zo_iload_n, zo_iload, zo_lload_n, zo_lload, zo_aload_n, zo_aload, zo_istore_n, zo_istore, zo_lstore_n, zo_lstore, zo_astore_n, zo_astore, zo_iinc, zo_iadd, zo_isub, zo_imul, zo_iand, zo_ior, zo_ixor, zo_ishl, zo_ishr, zo_iushr, zo_idiv, zo_irem, zo_ladd, zo_lsub, zo_lmul, zo_ldiv, zo_lrem, zo_lcmp, zo_i2l, zo_i2b, zo_i2s, zo_dup, zo_dup2, zo_aconst_null, zo_if_icmp, zo_ifCond, zo_goto, zo_ifnull, zo_ifnonnull, zo_iaload, zo_baload, zo_laload, zo_aaload, zo_iastore, zo_bastore, zo_lastore, zo_arraylength, zo_getfield, zo_putfield, zo_tableswitch, zo_lookupswitch, zo_ireturn, zo_lreturn, zo_areturn, zo_return, zo_invokestatic, zo_invokevirtual, zo_new, zo_invokespecial, zo_newarray, zo_anewarray, zo_aastore, zy_0_1, zy_0_2, zy_0_3, zy_1_1, zy_1_2, zy_2_1, zy_2_2, zy_2_3, zy_3_0, zy_4_3, zy_5_1, zy_5_2, zy_6_5, zy_6_6, zy_6_7, zy_6_8, zy_6_9, zy_6_10, zy_7_2, zy_7_6, zy_7_9, zy_7_10, zy_7_11, zy_7_12, zy_7_14, zy_7_21, zy_7_30, zq_iconst, zq_bipush, zq_sipush, zq_lconst0, zq_lconst1, zq_ldc, zq_ldc_w, zq_ldc2_w, zq_iload0, zq_iload1, zq_iload2, zq_iload3, zq_iload, zq_lload0, zq_lload1, zq_lload2, zq_lload3, zq_lload, zq_aload0, zq_aload1, zq_aload2, zq_aload3, zq_aload, zq_istore0, zq_istore1, zq_istore2, zq_istore3, zq_istore, zq_lstore0, zq_lstore1, zq_lstore2, zq_lstore3, zq_lstore, zq_astore0, zq_astore0N, zq_astore1, zq_astore1N, zq_astore2, zq_astore2N, zq_astore3, zq_astore3N, zq_astore, zq_astoreN, zq_iinc, zq_iadd, zq_isub, zq_imul, zq_iand, zq_ior, zq_ixor, zq_ishl, zq_ishr, zq_iushr, zq_idiv, zq_irem, zq_ladd, zq_lsub, zq_lmul, zq_ldiv, zq_lrem, zq_lcmp, zq_i2l, zq_i2b, zq_i2s, zq_dup_i, zq_dup_r, zq_dup2, zq_null, zq_icmp_eq, zq_if_eq, zq_icmp_ne, zq_if_ne, zq_icmp_lt, zq_if_lt, zq_icmp_ge, zq_if_ge, zq_icmp_gt, zq_if_gt, zq_icmp_le, zq_if_le, zq_goto, zq_ifnull_r, zq_ifnull_n, zq_ifnonnull_r, zq_ifnonnull_n, zq_iaload, zq_baload, zq_laload, zq_aaload, zq_iastore, zq_bastore, zq_lastore, zq_alen, zq_getf, zq_put, zq_tsw, zq_lsw, zq_ireturn, zq_lreturn, zq_areturn, zq_areturnN, zq_return, zq_invokestatic, zq_invokevirtual, zq_new, zq_invokespecial, zq_newarray, zq_anewarray, zq_aastore, zi_m1, zi_0, zi_1, zi_2, zi_3, zi_4, zi_5, zi_6, zi_8, zi_16, zb_m10, zb_m4, zb_m3, zb_m2, zb_6, zb_7, zb_8, zb_9, zb_10, zb_16, zb_20, zb_23, zb_30, zb_32, zb_35, zb_46, zb_48, zb_56, zb_57, zb_59, zb_63, zb_70, zb_98, zb_99, zb_100, zb_111, zb_112, zs_192, zs_255, zs_256, zs_511, zs_512, zs_12345, zf_X7_10_0, zf_X7_19_0, zf_X7_26_0, zf_X7_33_0, zf_X7_39_0, zf_X7_43_0, zf_X7_47_0, zf_X7_50_0, zf_X7_53_0, zf_X7_56_0, zf_X7_59_0, zkc_X7_223, zkl_X7_313, zkl_X7_240, zkl_X7_305, za_C_2, za_C_3, za_C_4, za_C_5, za_C_6, za_C_8, za_C_9, za_C_10, za_C_12, za_C_14, za_C_15, za_C_16, za_C_17, za_C_22, za_C_23, za_C_24, za_C_25, dX7_gainOf_0, dX7_gainOf_1, dX7_gainOf_4, dX7_gainOf_5, dX7_gainOf_8, dX7_gainOf_9, dX7_gainOf_12, dX7_gainOf_13, dX7_gainOf_16, dX7_gainOf_17, cr_X7_gainOf_106, cr_X7_gainOf_137, wr_X3_need, wr_X0_useOf]
    refine ⟨tx1 T, j, rfl, CR_x1 hC, hj, CR_k hC, tx0 T, s, rfl, CR_x0 hC, CR_b hC, ?_⟩
    rw [pk_mul]
    exact hk
  · exact h.elim
theorem ok_X7_gainOf (T : ZT) {tl : List ZE} : z_Ok (z_shC tl) yX7_gainOf cX7_gainOf 3 (some .int) ({ frames := 2, cells := 0, slots := 0, locals := 45 } : Room) 0 (wp_X7_gainOf T) := z_Ok_of (pu_X7_gainOf T) z_fX7_ok z_kX7_ok co_X7_gainOf ⟨by decide, by decide⟩ (by decide +kernel)
theorem rec_X7_gainOf (T : ZT) {tl : List ZE} : z_rec (z_shC tl) (wp_X7_gainOf T) 6 := by
  intro as S post h
  unfold wp_X7_gainOf at h
  split at h
  · exact ⟨_, _, _, rfl, rfl⟩
  · exact h.elim
def wp_X7_gain (T : ZT) : ZW := fun as S k => match as with
  | [.ref 0, .int a, .int b] => CR T S ∧ k (some (.int (q_gain T a b))) S
  | _ => False
theorem wr_X7_gain {T : ZT} {a : Int32} {b : Int32} {S : ZS} {k : Option Value → ZS → Prop} : (wp_X7_gain T) [.ref 0, .int a, .int b] S k = (CR T S ∧ k (some (.int (q_gain T a b))) S) := rfl
def cs_X7_gain (T : ZT) : List (Nat × ZC) := [(99, (2, 0, false, (wp_X7_isKing T))), (134, (1, 0, true, wp_X7_isSet)), (140, (3, 0, false, (wp_X7_gainOf T)))]
theorem cr_X7_gain_99 {T : ZT} : (cs_X7_gain T).lookup 99 = some (2, 0, false, (wp_X7_isKing T)) := rfl
theorem cr_X7_gain_134 {T : ZT} : (cs_X7_gain T).lookup 134 = some (1, 0, true, wp_X7_isSet) := rfl
theorem cr_X7_gain_140 {T : ZT} : (cs_X7_gain T).lookup 140 = some (3, 0, false, (wp_X7_gainOf T)) := rfl
set_option maxRecDepth 20000 in
theorem co_X7_gain (T : ZT) {tl : List ZE} : z_csok RX7 ({ frames := 3, cells := 0, slots := 0, locals := 67 } : Room) (z_shC tl) (cs_X7_gain T) := z_cs2 (z_csV (ok_X7_isKing T) (rec_X7_isKing T) rfl (z_g 313 (by decide +kernel) rfl) (z_g 315 (by decide +kernel) rfl) (z_g 1 (by decide +kernel) rfl) (z_g 316 (by decide +kernel) rfl) (z_g 44 (by decide +kernel) rfl) rfl rfl (by decide +kernel) ⟨by decide, by decide⟩)
  (z_cs2 (z_csS ok_X7_isSet (z_g 399 (by decide +kernel) rfl) (z_g 400 (by decide +kernel) rfl) (z_g 44 (by decide +kernel) rfl) (z_g 401 (by decide +kernel) rfl) rfl rfl (by decide +kernel) ⟨by decide, by decide⟩)
  (z_cs2 (z_csV (ok_X7_gainOf T) (rec_X7_gainOf T) rfl (z_g 411 (by decide +kernel) rfl) (z_g 413 (by decide +kernel) rfl) (z_g 4 (by decide +kernel) rfl) (z_g 414 (by decide +kernel) rfl) (z_g 44 (by decide +kernel) rfl) rfl rfl (by decide +kernel) ⟨by decide, by decide⟩)
  (z_cs0)))
set_option maxHeartbeats 4000000 in
set_option maxRecDepth 20000 in
theorem pu_X7_gain (T : ZT) {tl : List ZE} : z_Pure cX7_gain 3 (z_shC tl) z_fX7 (cs_X7_gain T) z_kcX7 z_klX7 (some .int) 0 (wp_X7_gain T) := by
  intro as S post h
  unfold wp_X7_gain at h
  split at h
  · rename_i a b
    refine ⟨Nat.le_of_ble_eq_true rfl, fun K hK => ?_⟩
    change K 0 0 [some (.ref 0), some (.int a), some (.int b)] [] S
    obtain ⟨hC, hk⟩ := h
    have hn := CR_M hC
    refine hK (z_in []) 100 _ _ _ _ _ (Nat.zero_le _) ?_
    simp (config := { maxSteps := 10000000 }) only [z40, z20, z10, z01, zm0, z0m, ze_s, ze_ok, zt_s, zt_t, zt_f, zl_I, zl_J, zl_R, zl_N, zl_C, zl_K, zl_M, zl_ar0, zl_ar1, zl_ar2, zl_ar3, zl_as0, zl_as1, zl_as2, zl_al, zl_gf, zl_gr, zl_pf, zl_iv, zl_ivn, zlk_n, zlk_c, ztb_n, ztb_c, zin_n, zin_1, zin_c, Int.reduceLT, decide_true, decide_false, Bool.true_and, Bool.and_true, List.length_cons, List.length_nil, Int.reduceSub, Int.reduceEq, Int.natCast_zero, zk_s, z_in_n, z_in_c, z_gt_0, z_gt_s, zst_0, zst_1, zst_s, zsl_0, zsl_1, zsl_s, zc_n, zc_i, zc_l, zc_r, zc_u, zca_n, zca_i, zca_l, zca_r, zca_u, zrt_i, zrt_z, zrt_o, z_cal_0, z_cal_s, true_and, and_true, List.nil_append, List.cons_append, Option.toList_some, Option.toList_none, Nat.reduceAdd, Nat.reduceBEq, Nat.reduceLT, Nat.reduceLeDiff, Nat.reduceSub, Int.reduceAdd, Int.reduceLE, Int.reduceToNat, Int.cast_ofNat_Int, Bool.or_true, Bool.true_or, Bool.or_false, Bool.false_or, Nat.le_refl, Nat.zero_le, or_true, true_or, or_false, false_or, not_true_eq_false, not_false_eq_true, not_false_iff, false_implies, true_implies, eq_self, zo_iconst, zo_bipush, zo_sipush, zo_lconst, zo_ldc, zo_ldc_w, zo_ldc2_w, zo_iload_n, zo_iload, zo_lload_n, zo_lload, zo_aload_n, zo_aload, zo_istore_n, zo_istore, zo_lstore_n, zo_lstore, zo_astore_n, zo_astore, zo_iinc, zo_iadd, zo_isub, zo_imul, zo_iand, zo_ior, zo_ixor, zo_ishl, zo_ishr, zo_iushr, zo_idiv, zo_irem, zo_ladd, zo_lsub, zo_lmul, zo_ldiv, zo_lrem, zo_lcmp, zo_i2l, zo_i2b, zo_i2s, zo_dup, zo_dup2, zo_aconst_null, zo_if_icmp, zo_ifCond, zo_goto, zo_ifnull, zo_ifnonnull, zo_iaload, zo_baload, zo_laload, zo_aaload, zo_iastore, zo_bastore, zo_lastore, zo_arraylength, zo_getfield, zo_putfield, zo_tableswitch, zo_lookupswitch, zo_ireturn, zo_lreturn, zo_areturn, zo_return, zo_invokestatic, zo_invokevirtual, zo_new, zo_invokespecial, zo_newarray, zo_anewarray, zo_aastore, zy_0_1, zy_0_2, zy_0_3, zy_1_1, zy_1_2, zy_2_1, zy_2_2, zy_2_3, zy_3_0, zy_4_3, zy_5_1, zy_5_2, zy_6_5, zy_6_6, zy_6_7, zy_6_8, zy_6_9, zy_6_10, zy_7_2, zy_7_6, zy_7_9, zy_7_10, zy_7_11, zy_7_12, zy_7_14, zy_7_21, zy_7_30, zq_iconst, zq_bipush, zq_sipush, zq_lconst0, zq_lconst1, zq_ldc, zq_ldc_w, zq_ldc2_w, zq_iload0, zq_iload1, zq_iload2, zq_iload3, zq_iload, zq_lload0, zq_lload1, zq_lload2, zq_lload3, zq_lload, zq_aload0, zq_aload1, zq_aload2, zq_aload3, zq_aload, zq_istore0, zq_istore1, zq_istore2, zq_istore3, zq_istore, zq_lstore0, zq_lstore1, zq_lstore2, zq_lstore3, zq_lstore, zq_astore0, zq_astore0N, zq_astore1, zq_astore1N, zq_astore2, zq_astore2N, zq_astore3, zq_astore3N, zq_astore, zq_astoreN, zq_iinc, zq_iadd, zq_isub, zq_imul, zq_iand, zq_ior, zq_ixor, zq_ishl, zq_ishr, zq_iushr, zq_idiv, zq_irem, zq_ladd, zq_lsub, zq_lmul, zq_ldiv, zq_lrem, zq_lcmp, zq_i2l, zq_i2b, zq_i2s, zq_dup_i, zq_dup_r, zq_dup2, zq_null, zq_icmp_eq, zq_if_eq, zq_icmp_ne, zq_if_ne, zq_icmp_lt, zq_if_lt, zq_icmp_ge, zq_if_ge, zq_icmp_gt, zq_if_gt, zq_icmp_le, zq_if_le, zq_goto, zq_ifnull_r, zq_ifnull_n, zq_ifnonnull_r, zq_ifnonnull_n, zq_iaload, zq_baload, zq_laload, zq_aaload, zq_iastore, zq_bastore, zq_lastore, zq_alen, zq_getf, zq_put, zq_tsw, zq_lsw, zq_ireturn, zq_lreturn, zq_areturn, zq_areturnN, zq_return, zq_invokestatic, zq_invokevirtual, zq_new, zq_invokespecial, zq_newarray, zq_anewarray, zq_aastore, zi_m1, zi_0, zi_1, zi_2, zi_3, zi_4, zi_5, zi_6, zi_8, zi_16, zb_m10, zb_m4, zb_m3, zb_m2, zb_6, zb_7, zb_8, zb_9, zb_10, zb_16, zb_20, zb_23, zb_30, zb_32, zb_35, zb_46, zb_48, zb_56, zb_57, zb_59, zb_63, zb_70, zb_98, zb_99, zb_100, zb_111, zb_112, zs_192, zs_255, zs_256, zs_511, zs_512, zs_12345, zf_X7_10_0, zf_X7_19_0, zf_X7_26_0, zf_X7_33_0, zf_X7_39_0, zf_X7_43_0, zf_X7_47_0, zf_X7_50_0, zf_X7_53_0, zf_X7_56_0, zf_X7_59_0, zkc_X7_223, zkl_X7_313, zkl_X7_240, zkl_X7_305, za_C_2, za_C_3, za_C_4, za_C_5, za_C_6, za_C_8, za_C_9, za_C_10, za_C_12, za_C_14, za_C_15, za_C_16, za_C_17, za_C_22, za_C_23, za_C_24, za_C_25, dX7_gain_0, dX7_gain_1, dX7_gain_2, dX7_gain_5, dX7_gain_8, dX7_gain_9, dX7_gain_12, dX7_gain_15, dX7_gain_16, dX7_gain_17, dX7_gain_18, dX7_gain_21, dX7_gain_24, dX7_gain_26, cr_X7_gain_99, cr_X7_gain_134, cr_X7_gain_140, wr_X7_isKing, wr_X7_isSet, wr_X7_gainOf]
    have e1 : (0 ≤ b ∧ b ≤ 511) ↔ i_in b 512 := w_in (m := 511) (by decide)
    rw [e1]
    unfold q_gain at hk
    have bad : ¬ (i_in a (tM T) ∧ i_in b 512) → post (some (.int (-2))) S := by
      intro q
      rw [if_neg q] at hk; exact hk
    refine ⟨hC, fun c => ⟨fun d => ?_, fun d => bad (fun q => d q.2)⟩, fun c => bad (fun q => c q.1)⟩
    rw [if_pos ⟨c, d⟩] at hk
    obtain ⟨ea, ha⟩ := i_inI c (by omega)
    obtain ⟨eb, hb⟩ := i_inI d (by omega)
    exact ⟨cn a, cn b, hC, ea, eb, ha, hk⟩
  · exact h.elim
theorem ok_X7_gain (T : ZT) {tl : List ZE} : z_Ok (z_shC tl) yX7_gain cX7_gain 3 (some .int) ({ frames := 3, cells := 0, slots := 0, locals := 67 } : Room) 0 (wp_X7_gain T) := z_Ok_of (pu_X7_gain T) z_fX7_ok z_kX7_ok (co_X7_gain T) ⟨by decide, by decide⟩ (by decide +kernel)
theorem rec_X7_gain (T : ZT) {tl : List ZE} : z_rec (z_shC tl) (wp_X7_gain T) 6 := by
  intro as S post h
  unfold wp_X7_gain at h
  split at h
  · exact ⟨_, _, _, rfl, rfl⟩
  · exact h.elim
def wp_X7_loss (T : ZT) : ZW := fun as S k => match as with
  | [.ref 0] => CR T S ∧ k (some (.int (q_loss T))) S
  | _ => False
theorem wr_X7_loss {T : ZT} {S : ZS} {k : Option Value → ZS → Prop} : (wp_X7_loss T) [.ref 0] S k = (CR T S ∧ k (some (.int (q_loss T))) S) := rfl
def cs_X7_loss (T : ZT) : List (Nat × ZC) := [(128, (1, 0, false, wp_X2_every_B)), (137, (2, 0, false, wp_X0_useOf)), (144, (1, 0, false, (wp_X7_left T)))]
theorem cr_X7_loss_128 {T : ZT} : (cs_X7_loss T).lookup 128 = some (1, 0, false, wp_X2_every_B) := rfl
theorem cr_X7_loss_137 {T : ZT} : (cs_X7_loss T).lookup 137 = some (2, 0, false, wp_X0_useOf) := rfl
theorem cr_X7_loss_144 {T : ZT} : (cs_X7_loss T).lookup 144 = some (1, 0, false, (wp_X7_left T)) := rfl
set_option maxRecDepth 20000 in
theorem co_X7_loss (T : ZT) {tl : List ZE} : z_csok RX7 ({ frames := 2, cells := 0, slots := 0, locals := 45 } : Room) (z_shC tl) (cs_X7_loss T) := z_cs2 (z_csU (owner := "NineBooks$Entries") (x := ⟨"NineBooks$Books", "every", "()I"⟩) ok_X2_every_B rec_X2_every_B rfl (Or.inl (z_gn 387 (by decide +kernel) rfl)) (z_g 385 (by decide +kernel) rfl) (z_g 389 (by decide +kernel) rfl) (z_g 388 (by decide +kernel) rfl) (z_g 390 (by decide +kernel) rfl) (z_g 45 (by decide +kernel) rfl) (z_g 386 (by decide +kernel) rfl) rfl rfl (by decide +kernel) ⟨by decide, by decide⟩)
  (z_cs2 (z_csV ok_X0_useOf rec_X0_useOf rfl (z_g 402 (by decide +kernel) rfl) (z_g 403 (by decide +kernel) rfl) (z_g 404 (by decide +kernel) rfl) (z_g 405 (by decide +kernel) rfl) (z_g 46 (by decide +kernel) rfl) rfl rfl (by decide +kernel) ⟨by decide, by decide⟩)
  (z_cs2 (z_csV (ok_X7_left T) (rec_X7_left T) rfl (z_g 419 (by decide +kernel) rfl) (z_g 382 (by decide +kernel) rfl) (z_g 383 (by decide +kernel) rfl) (z_g 384 (by decide +kernel) rfl) (z_g 44 (by decide +kernel) rfl) rfl rfl (by decide +kernel) ⟨by decide, by decide⟩)
  (z_cs0)))
set_option maxHeartbeats 4000000 in
set_option maxRecDepth 20000 in
theorem pu_X7_loss (T : ZT) {tl : List ZE} : z_Pure cX7_loss 1 (z_shC tl) z_fX7 (cs_X7_loss T) z_kcX7 z_klX7 (some .int) 0 (wp_X7_loss T) := by
  intro as S post h
  unfold wp_X7_loss at h
  split at h
  · skip
    refine ⟨Nat.le_of_ble_eq_true rfl, fun K hK => ?_⟩
    change K 0 0 [some (.ref 0)] [] S
    obtain ⟨hC, hk⟩ := h
    refine hK (z_in []) 100 _ _ _ _ _ (Nat.zero_le _) ?_
    simp (config := { maxSteps := 10000000 }) only [z40, z20, z10, z01, zm0, z0m, ze_s, ze_ok, zt_s, zt_t, zt_f, zl_I, zl_J, zl_R, zl_N, zl_C, zl_K, zl_M, zl_ar0, zl_ar1, zl_ar2, zl_ar3, zl_as0, zl_as1, zl_as2, zl_al, zl_gf, zl_gr, zl_pf, zl_iv, zl_ivn, zlk_n, zlk_c, ztb_n, ztb_c, zin_n, zin_1, zin_c, Int.reduceLT, decide_true, decide_false, Bool.true_and, Bool.and_true, List.length_cons, List.length_nil, Int.reduceSub, Int.reduceEq, Int.natCast_zero, zk_s, z_in_n, z_in_c, z_gt_0, z_gt_s, zst_0, zst_1, zst_s, zsl_0, zsl_1, zsl_s, zc_n, zc_i, zc_l, zc_r, zc_u, zca_n, zca_i, zca_l, zca_r, zca_u, zrt_i, zrt_z, zrt_o, z_cal_0, z_cal_s, true_and, and_true, List.nil_append, List.cons_append, Option.toList_some, Option.toList_none, Nat.reduceAdd, Nat.reduceBEq, Nat.reduceLT, Nat.reduceLeDiff, Nat.reduceSub, Int.reduceAdd, Int.reduceLE, Int.reduceToNat, Int.cast_ofNat_Int, Bool.or_true, Bool.true_or, Bool.or_false, Bool.false_or, Nat.le_refl, Nat.zero_le, or_true, true_or, or_false, false_or, not_true_eq_false, not_false_eq_true, not_false_iff, false_implies, true_implies, eq_self, zo_iconst, zo_bipush, zo_sipush, zo_lconst, zo_ldc, zo_ldc_w, zo_ldc2_w, zo_iload_n, zo_iload, zo_lload_n, zo_lload, zo_aload_n, zo_aload, zo_istore_n, zo_istore, zo_lstore_n, zo_lstore, zo_astore_n, zo_astore, zo_iinc, zo_iadd, zo_isub, zo_imul, zo_iand, zo_ior, zo_ixor, zo_ishl, zo_ishr, zo_iushr, zo_idiv, zo_irem, zo_ladd, zo_lsub, zo_lmul, zo_ldiv, zo_lrem, zo_lcmp, zo_i2l, zo_i2b, zo_i2s, zo_dup, zo_dup2, zo_aconst_null, zo_if_icmp, zo_ifCond, zo_goto, zo_ifnull, zo_ifnonnull, zo_iaload, zo_baload, zo_laload, zo_aaload, zo_iastore, zo_bastore, zo_lastore, zo_arraylength, zo_getfield, zo_putfield, zo_tableswitch, zo_lookupswitch, zo_ireturn, zo_lreturn, zo_areturn, zo_return, zo_invokestatic, zo_invokevirtual, zo_new, zo_invokespecial, zo_newarray, zo_anewarray, zo_aastore, zy_0_1, zy_0_2, zy_0_3, zy_1_1, zy_1_2, zy_2_1, zy_2_2, zy_2_3, zy_3_0, zy_4_3, zy_5_1, zy_5_2, zy_6_5, zy_6_6, zy_6_7, zy_6_8, zy_6_9, zy_6_10, zy_7_2, zy_7_6, zy_7_9, zy_7_10, zy_7_11, zy_7_12, zy_7_14, zy_7_21, zy_7_30, zq_iconst, zq_bipush, zq_sipush, zq_lconst0, zq_lconst1, zq_ldc, zq_ldc_w, zq_ldc2_w, zq_iload0, zq_iload1, zq_iload2, zq_iload3, zq_iload, zq_lload0, zq_lload1, zq_lload2, zq_lload3, zq_lload, zq_aload0, zq_aload1, zq_aload2, zq_aload3, zq_aload, zq_istore0, zq_istore1, zq_istore2, zq_istore3, zq_istore, zq_lstore0, zq_lstore1, zq_lstore2, zq_lstore3, zq_lstore, zq_astore0, zq_astore0N, zq_astore1, zq_astore1N, zq_astore2, zq_astore2N, zq_astore3, zq_astore3N, zq_astore, zq_astoreN, zq_iinc, zq_iadd, zq_isub, zq_imul, zq_iand, zq_ior, zq_ixor, zq_ishl, zq_ishr, zq_iushr, zq_idiv, zq_irem, zq_ladd, zq_lsub, zq_lmul, zq_ldiv, zq_lrem, zq_lcmp, zq_i2l, zq_i2b, zq_i2s, zq_dup_i, zq_dup_r, zq_dup2, zq_null, zq_icmp_eq, zq_if_eq, zq_icmp_ne, zq_if_ne, zq_icmp_lt, zq_if_lt, zq_icmp_ge, zq_if_ge, zq_icmp_gt, zq_if_gt, zq_icmp_le, zq_if_le, zq_goto, zq_ifnull_r, zq_ifnull_n, zq_ifnonnull_r, zq_ifnonnull_n, zq_iaload, zq_baload, zq_laload, zq_aaload, zq_iastore, zq_bastore, zq_lastore, zq_alen, zq_getf, zq_put, zq_tsw, zq_lsw, zq_ireturn, zq_lreturn, zq_areturn, zq_areturnN, zq_return, zq_invokestatic, zq_invokevirtual, zq_new, zq_invokespecial, zq_newarray, zq_anewarray, zq_aastore, zi_m1, zi_0, zi_1, zi_2, zi_3, zi_4, zi_5, zi_6, zi_8, zi_16, zb_m10, zb_m4, zb_m3, zb_m2, zb_6, zb_7, zb_8, zb_9, zb_10, zb_16, zb_20, zb_23, zb_30, zb_32, zb_35, zb_46, zb_48, zb_56, zb_57, zb_59, zb_63, zb_70, zb_98, zb_99, zb_100, zb_111, zb_112, zs_192, zs_255, zs_256, zs_511, zs_512, zs_12345, zf_X7_10_0, zf_X7_19_0, zf_X7_26_0, zf_X7_33_0, zf_X7_39_0, zf_X7_43_0, zf_X7_47_0, zf_X7_50_0, zf_X7_53_0, zf_X7_56_0, zf_X7_59_0, zkc_X7_223, zkl_X7_313, zkl_X7_240, zkl_X7_305, za_C_2, za_C_3, za_C_4, za_C_5, za_C_6, za_C_8, za_C_9, za_C_10, za_C_12, za_C_14, za_C_15, za_C_16, za_C_17, za_C_22, za_C_23, za_C_24, za_C_25, dX7_loss_0, dX7_loss_1, dX7_loss_4, dX7_loss_5, dX7_loss_8, dX7_loss_11, dX7_loss_14, dX7_loss_15, dX7_loss_18, dX7_loss_19, dX7_loss_22, dX7_loss_25, dX7_loss_26, cr_X7_loss_128, cr_X7_loss_137, cr_X7_loss_144, wr_X2_every_B, wr_X0_useOf, wr_X7_left]
    rw [(CR_b hC).2.2.2.1, bt_all _ (Nat.lt_succ_of_le (CR_N hC))]
    exact ⟨tx0 T, ab_every (tx0 T), rfl, CR_x0 hC, CR_b hC, hC, tx0 T, tL T, rfl, CR_x0 hC, CR_b hC, hk⟩
  · exact h.elim
theorem ok_X7_loss (T : ZT) {tl : List ZE} : z_Ok (z_shC tl) yX7_loss cX7_loss 1 (some .int) ({ frames := 2, cells := 0, slots := 0, locals := 45 } : Room) 0 (wp_X7_loss T) := z_Ok_of (pu_X7_loss T) z_fX7_ok z_kX7_ok (co_X7_loss T) ⟨by decide, by decide⟩ (by decide +kernel)
theorem rec_X7_loss (T : ZT) {tl : List ZE} : z_rec (z_shC tl) (wp_X7_loss T) 6 := by
  intro as S post h
  unfold wp_X7_loss at h
  split at h
  · exact ⟨_, _, _, rfl, rfl⟩
  · exact h.elim
theorem tU_le {T : ZT} {S : ZS} (h : CR T S) (s : Nat) : tU T s ≤ 81 := by
  have := ab_useN_le (CR_x0 h) (ab_mask_lt (x := tx0 T) s) 9
  exact this
theorem tneed_le {T : ZT} {S : ZS} (h : CR T S) {j : Nat} (hj : j < tM T) : ab_need (tx1 T) j ≤ 9 ∧ ab_has (tx1 T) j ≤ 99 := by
  obtain ⟨-, h1, h2, h3⟩ := ab_entK (CR_x1 h) hj
  unfold ab_need ab_has
  omega
theorem tG_le {T : ZT} {S : ZS} (h : CR T S) {j : Nat} (hj : j < tM T) (s : Nat) : tG T j s ≤ 729 := by
  have h1 := tU_le h s
  have h2 := (tneed_le h hj).1
  calc tG T j s ≤ 9 * 81 := Nat.mul_le_mul h2 h1
    _ = 729 := rfl
theorem tP_le {T : ZT} {S : ZS} (h : CR T S) {j : Nat} (hj : j < tM T) (s : Nat) : tP T j s ≤ 99 ∧ tP T j s ≤ tG T j s ∧ tP T j s ≤ ab_has (tx1 T) j := by
  have := (tneed_le h hj).2
  unfold tP
  split <;> omega
theorem n_ite {c : Prop} [Decidable c] {a b : Nat} : (if c then nI a else nI b) = nI (if c then a else b) := by split <;> rfl
def wp_X7_mostPaid (T : ZT) : ZW := fun as S k => match as with
  | [.ref 0, .int a, .int b] => ∃ j s : Nat, CR T S ∧ a = nI j ∧ b = nI s ∧ j < tM T ∧ k (some (.int (nI (tP T j s)))) S
  | _ => False
theorem wr_X7_mostPaid {T : ZT} {a : Int32} {b : Int32} {S : ZS} {k : Option Value → ZS → Prop} : (wp_X7_mostPaid T) [.ref 0, .int a, .int b] S k = (∃ j s : Nat, CR T S ∧ a = nI j ∧ b = nI s ∧ j < tM T ∧ k (some (.int (nI (tP T j s)))) S) := rfl
def cs_X7_mostPaid (T : ZT) : List (Nat × ZC) := [(103, (2, 0, false, wp_X3_has)), (140, (3, 0, false, (wp_X7_gainOf T))), (176, (2, 0, true, wp_min))]
theorem cr_X7_mostPaid_103 {T : ZT} : (cs_X7_mostPaid T).lookup 103 = some (2, 0, false, wp_X3_has) := rfl
theorem cr_X7_mostPaid_140 {T : ZT} : (cs_X7_mostPaid T).lookup 140 = some (3, 0, false, (wp_X7_gainOf T)) := rfl
theorem cr_X7_mostPaid_176 {T : ZT} : (cs_X7_mostPaid T).lookup 176 = some (2, 0, true, wp_min) := rfl
set_option maxRecDepth 20000 in
theorem co_X7_mostPaid (T : ZT) {tl : List ZE} : z_csok RX7 ({ frames := 3, cells := 0, slots := 0, locals := 67 } : Room) (z_shC tl) (cs_X7_mostPaid T) := z_cs2 (z_csV ok_X3_has rec_X3_has rfl (z_g 320 (by decide +kernel) rfl) (z_g 321 (by decide +kernel) rfl) (z_g 322 (by decide +kernel) rfl) (z_g 323 (by decide +kernel) rfl) (z_g 47 (by decide +kernel) rfl) rfl rfl (by decide +kernel) ⟨by decide, by decide⟩)
  (z_cs2 (z_csV (ok_X7_gainOf T) (rec_X7_gainOf T) rfl (z_g 411 (by decide +kernel) rfl) (z_g 413 (by decide +kernel) rfl) (z_g 4 (by decide +kernel) rfl) (z_g 414 (by decide +kernel) rfl) (z_g 44 (by decide +kernel) rfl) rfl rfl (by decide +kernel) ⟨by decide, by decide⟩)
  (z_cs2 (z_cs_min (z_g 447 (by decide +kernel) rfl) (z_g 448 (by decide +kernel) rfl) (z_g 53 (by decide +kernel) rfl) (z_g 449 (by decide +kernel) rfl) ⟨by decide, by decide⟩)
  (z_cs0)))
set_option maxHeartbeats 4000000 in
set_option maxRecDepth 20000 in
theorem pu_X7_mostPaid (T : ZT) {tl : List ZE} : z_Pure cX7_mostPaid 3 (z_shC tl) z_fX7 (cs_X7_mostPaid T) z_kcX7 z_klX7 (some .int) 0 (wp_X7_mostPaid T) := by
  intro as S post h
  unfold wp_X7_mostPaid at h
  split at h
  · rename_i a b
    refine ⟨Nat.le_of_ble_eq_true rfl, fun K hK => ?_⟩
    change K 0 0 [some (.ref 0), some (.int a), some (.int b)] [] S
    obtain ⟨j, s, hC, rfl, rfl, hj, hk⟩ := h
    have g1 := tG_le hC hj s
    have g2 := (tneed_le hC hj).2
    refine hK (z_in []) 100 _ _ _ _ _ (Nat.zero_le _) ?_
    simp (config := { maxSteps := 10000000 }) only [z40, z20, z10, z01, zm0, z0m, ze_s, ze_ok, zt_s, zt_t, zt_f, zl_I, zl_J, zl_R, zl_N, zl_C, zl_K, zl_M, zl_ar0, zl_ar1, zl_ar2, zl_ar3, zl_as0, zl_as1, zl_as2, zl_al, zl_gf, zl_gr, zl_pf, zl_iv, zl_ivn, zlk_n, zlk_c, ztb_n, ztb_c, zin_n, zin_1, zin_c, Int.reduceLT, decide_true, decide_false, Bool.true_and, Bool.and_true, List.length_cons, List.length_nil, Int.reduceSub, Int.reduceEq, Int.natCast_zero, zk_s, z_in_n, z_in_c, z_gt_0, z_gt_s, zst_0, zst_1, zst_s, zsl_0, zsl_1, zsl_s, zc_n, zc_i, zc_l, zc_r, zc_u, zca_n, zca_i, zca_l, zca_r, zca_u, zrt_i, zrt_z, zrt_o, z_cal_0, z_cal_s, true_and, and_true, List.nil_append, List.cons_append, Option.toList_some, Option.toList_none, Nat.reduceAdd, Nat.reduceBEq, Nat.reduceLT, Nat.reduceLeDiff, Nat.reduceSub, Int.reduceAdd, Int.reduceLE, Int.reduceToNat, Int.cast_ofNat_Int, Bool.or_true, Bool.true_or, Bool.or_false, Bool.false_or, Nat.le_refl, Nat.zero_le, or_true, true_or, or_false, false_or, not_true_eq_false, not_false_eq_true, not_false_iff, false_implies, true_implies, eq_self, zo_iconst, zo_bipush, zo_sipush, zo_lconst, zo_ldc, zo_ldc_w, zo_ldc2_w, zo_iload_n, zo_iload, zo_lload_n, zo_lload, zo_aload_n, zo_aload, zo_istore_n, zo_istore, zo_lstore_n, zo_lstore, zo_astore_n, zo_astore, zo_iinc, zo_iadd, zo_isub, zo_imul, zo_iand, zo_ior, zo_ixor, zo_ishl, zo_ishr, zo_iushr, zo_idiv, zo_irem, zo_ladd, zo_lsub, zo_lmul, zo_ldiv, zo_lrem, zo_lcmp, zo_i2l, zo_i2b, zo_i2s, zo_dup, zo_dup2, zo_aconst_null, zo_if_icmp, zo_ifCond, zo_goto, zo_ifnull, zo_ifnonnull, zo_iaload, zo_baload, zo_laload, zo_aaload, zo_iastore, zo_bastore, zo_lastore, zo_arraylength, zo_getfield, zo_putfield, zo_tableswitch, zo_lookupswitch, zo_ireturn, zo_lreturn, zo_areturn, zo_return, zo_invokestatic, zo_invokevirtual, zo_new, zo_invokespecial, zo_newarray, zo_anewarray, zo_aastore, zy_0_1, zy_0_2, zy_0_3, zy_1_1, zy_1_2, zy_2_1, zy_2_2, zy_2_3, zy_3_0, zy_4_3, zy_5_1, zy_5_2, zy_6_5, zy_6_6, zy_6_7, zy_6_8, zy_6_9, zy_6_10, zy_7_2, zy_7_6, zy_7_9, zy_7_10, zy_7_11, zy_7_12, zy_7_14, zy_7_21, zy_7_30, zq_iconst, zq_bipush, zq_sipush, zq_lconst0, zq_lconst1, zq_ldc, zq_ldc_w, zq_ldc2_w, zq_iload0, zq_iload1, zq_iload2, zq_iload3, zq_iload, zq_lload0, zq_lload1, zq_lload2, zq_lload3, zq_lload, zq_aload0, zq_aload1, zq_aload2, zq_aload3, zq_aload, zq_istore0, zq_istore1, zq_istore2, zq_istore3, zq_istore, zq_lstore0, zq_lstore1, zq_lstore2, zq_lstore3, zq_lstore, zq_astore0, zq_astore0N, zq_astore1, zq_astore1N, zq_astore2, zq_astore2N, zq_astore3, zq_astore3N, zq_astore, zq_astoreN, zq_iinc, zq_iadd, zq_isub, zq_imul, zq_iand, zq_ior, zq_ixor, zq_ishl, zq_ishr, zq_iushr, zq_idiv, zq_irem, zq_ladd, zq_lsub, zq_lmul, zq_ldiv, zq_lrem, zq_lcmp, zq_i2l, zq_i2b, zq_i2s, zq_dup_i, zq_dup_r, zq_dup2, zq_null, zq_icmp_eq, zq_if_eq, zq_icmp_ne, zq_if_ne, zq_icmp_lt, zq_if_lt, zq_icmp_ge, zq_if_ge, zq_icmp_gt, zq_if_gt, zq_icmp_le, zq_if_le, zq_goto, zq_ifnull_r, zq_ifnull_n, zq_ifnonnull_r, zq_ifnonnull_n, zq_iaload, zq_baload, zq_laload, zq_aaload, zq_iastore, zq_bastore, zq_lastore, zq_alen, zq_getf, zq_put, zq_tsw, zq_lsw, zq_ireturn, zq_lreturn, zq_areturn, zq_areturnN, zq_return, zq_invokestatic, zq_invokevirtual, zq_new, zq_invokespecial, zq_newarray, zq_anewarray, zq_aastore, zi_m1, zi_0, zi_1, zi_2, zi_3, zi_4, zi_5, zi_6, zi_8, zi_16, zb_m10, zb_m4, zb_m3, zb_m2, zb_6, zb_7, zb_8, zb_9, zb_10, zb_16, zb_20, zb_23, zb_30, zb_32, zb_35, zb_46, zb_48, zb_56, zb_57, zb_59, zb_63, zb_70, zb_98, zb_99, zb_100, zb_111, zb_112, zs_192, zs_255, zs_256, zs_511, zs_512, zs_12345, zf_X7_10_0, zf_X7_19_0, zf_X7_26_0, zf_X7_33_0, zf_X7_39_0, zf_X7_43_0, zf_X7_47_0, zf_X7_50_0, zf_X7_53_0, zf_X7_56_0, zf_X7_59_0, zkc_X7_223, zkl_X7_313, zkl_X7_240, zkl_X7_305, za_C_2, za_C_3, za_C_4, za_C_5, za_C_6, za_C_8, za_C_9, za_C_10, za_C_12, za_C_14, za_C_15, za_C_16, za_C_17, za_C_22, za_C_23, za_C_24, za_C_25, dX7_mostPaid_0, dX7_mostPaid_1, dX7_mostPaid_4, dX7_mostPaid_5, dX7_mostPaid_8, dX7_mostPaid_9, dX7_mostPaid_10, dX7_mostPaid_11, dX7_mostPaid_14, dX7_mostPaid_17, cr_X7_mostPaid_103, cr_X7_mostPaid_140, cr_X7_mostPaid_176, wr_X3_has, wr_X7_gainOf, wr_min]
    refine ⟨tx1 T, j, rfl, CR_x1 hC, hj, CR_k hC, j, s, hC, rfl, rfl, hj, ?_⟩
    simp only [n_lt (a := tG T j s) (b := ab_has (tx1 T) j) (by omega) (by omega), n_ite]
    exact hk
  · exact h.elim
theorem ok_X7_mostPaid (T : ZT) {tl : List ZE} : z_Ok (z_shC tl) yX7_mostPaid cX7_mostPaid 3 (some .int) ({ frames := 3, cells := 0, slots := 0, locals := 67 } : Room) 0 (wp_X7_mostPaid T) := z_Ok_of (pu_X7_mostPaid T) z_fX7_ok z_kX7_ok (co_X7_mostPaid T) ⟨by decide, by decide⟩ (by decide +kernel)
theorem rec_X7_mostPaid (T : ZT) {tl : List ZE} : z_rec (z_shC tl) (wp_X7_mostPaid T) 6 := by
  intro as S post h
  unfold wp_X7_mostPaid at h
  split at h
  · exact ⟨_, _, _, rfl, rfl⟩
  · exact h.elim
def wp_X7_actAt (T : ZT) : ZW := fun as S k => match as with
  | [.ref 0, .int a, .int b, .int c] => ∃ j s p : Nat, CR T S ∧ a = nI j ∧ b = nI s ∧ c = nI p ∧ j < tM T ∧ s < 512 ∧ p < 2147483648 ∧ k (some (.int (nI (tA T j s p)))) S
  | _ => False
theorem wr_X7_actAt {T : ZT} {a : Int32} {b : Int32} {c : Int32} {S : ZS} {k : Option Value → ZS → Prop} : (wp_X7_actAt T) [.ref 0, .int a, .int b, .int c] S k = (∃ j s p : Nat, CR T S ∧ a = nI j ∧ b = nI s ∧ c = nI p ∧ j < tM T ∧ s < 512 ∧ p < 2147483648 ∧ k (some (.int (nI (tA T j s p)))) S) := rfl
def cs_X7_actAt (T : ZT) : List (Nat × ZC) := [(128, (1, 0, false, wp_X2_every_B)), (168, (3, 0, false, (wp_X7_mostPaid T)))]
theorem cr_X7_actAt_128 {T : ZT} : (cs_X7_actAt T).lookup 128 = some (1, 0, false, wp_X2_every_B) := rfl
theorem cr_X7_actAt_168 {T : ZT} : (cs_X7_actAt T).lookup 168 = some (3, 0, false, (wp_X7_mostPaid T)) := rfl
set_option maxRecDepth 20000 in
theorem co_X7_actAt (T : ZT) {tl : List ZE} : z_csok RX7 ({ frames := 4, cells := 0, slots := 0, locals := 89 } : Room) (z_shC tl) (cs_X7_actAt T) := z_cs2 (z_csU (owner := "NineBooks$Entries") (x := ⟨"NineBooks$Books", "every", "()I"⟩) ok_X2_every_B rec_X2_every_B rfl (Or.inl (z_gn 387 (by decide +kernel) rfl)) (z_g 385 (by decide +kernel) rfl) (z_g 389 (by decide +kernel) rfl) (z_g 388 (by decide +kernel) rfl) (z_g 390 (by decide +kernel) rfl) (z_g 45 (by decide +kernel) rfl) (z_g 386 (by decide +kernel) rfl) rfl rfl (by decide +kernel) ⟨by decide, by decide⟩)
  (z_cs2 (z_csV (ok_X7_mostPaid T) (rec_X7_mostPaid T) rfl (z_g 443 (by decide +kernel) rfl) (z_g 445 (by decide +kernel) rfl) (z_g 6 (by decide +kernel) rfl) (z_g 446 (by decide +kernel) rfl) (z_g 44 (by decide +kernel) rfl) rfl rfl (by decide +kernel) ⟨by decide, by decide⟩)
  (z_cs0))
set_option maxHeartbeats 4000000 in
set_option maxRecDepth 20000 in
theorem pu_X7_actAt (T : ZT) {tl : List ZE} : z_Pure cX7_actAt 5 (z_shC tl) z_fX7 (cs_X7_actAt T) z_kcX7 z_klX7 (some .int) 0 (wp_X7_actAt T) := by
  intro as S post h
  unfold wp_X7_actAt at h
  split at h
  · rename_i a b c
    refine ⟨Nat.le_of_ble_eq_true rfl, fun K hK => ?_⟩
    change K 0 0 [some (.ref 0), some (.int a), some (.int b), some (.int c), none] [] S
    obtain ⟨j, s, p, hC, rfl, rfl, rfl, hj, hs, hp, hk⟩ := h
    have g1 := tP_le hC hj s
    have he := ab_every_lt (CR_x0 hC)
    have hse : s &&& ab_every (tx0 T) < 512 := Nat.lt_of_le_of_lt Nat.and_le_left hs
    refine hK (z_in []) 100 _ _ _ _ _ (Nat.zero_le _) ?_
    simp (config := { maxSteps := 10000000 }) only [z40, z20, z10, z01, zm0, z0m, ze_s, ze_ok, zt_s, zt_t, zt_f, zl_I, zl_J, zl_R, zl_N, zl_C, zl_K, zl_M, zl_ar0, zl_ar1, zl_ar2, zl_ar3, zl_as0, zl_as1, zl_as2, zl_al, zl_gf, zl_gr, zl_pf, zl_iv, zl_ivn, zlk_n, zlk_c, ztb_n, ztb_c, zin_n, zin_1, zin_c, Int.reduceLT, decide_true, decide_false, Bool.true_and, Bool.and_true, List.length_cons, List.length_nil, Int.reduceSub, Int.reduceEq, Int.natCast_zero, zk_s, z_in_n, z_in_c, z_gt_0, z_gt_s, zst_0, zst_1, zst_s, zsl_0, zsl_1, zsl_s, zc_n, zc_i, zc_l, zc_r, zc_u, zca_n, zca_i, zca_l, zca_r, zca_u, zrt_i, zrt_z, zrt_o, z_cal_0, z_cal_s, true_and, and_true, List.nil_append, List.cons_append, Option.toList_some, Option.toList_none, Nat.reduceAdd, Nat.reduceBEq, Nat.reduceLT, Nat.reduceLeDiff, Nat.reduceSub, Int.reduceAdd, Int.reduceLE, Int.reduceToNat, Int.cast_ofNat_Int, Bool.or_true, Bool.true_or, Bool.or_false, Bool.false_or, Nat.le_refl, Nat.zero_le, or_true, true_or, or_false, false_or, not_true_eq_false, not_false_eq_true, not_false_iff, false_implies, true_implies, eq_self, zo_iconst, zo_bipush, zo_sipush, zo_lconst, zo_ldc, zo_ldc_w, zo_ldc2_w, zo_iload_n, zo_iload, zo_lload_n, zo_lload, zo_aload_n, zo_aload, zo_istore_n, zo_istore, zo_lstore_n, zo_lstore, zo_astore_n, zo_astore, zo_iinc, zo_iadd, zo_isub, zo_imul, zo_iand, zo_ior, zo_ixor, zo_ishl, zo_ishr, zo_iushr, zo_idiv, zo_irem, zo_ladd, zo_lsub, zo_lmul, zo_ldiv, zo_lrem, zo_lcmp, zo_i2l, zo_i2b, zo_i2s, zo_dup, zo_dup2, zo_aconst_null, zo_if_icmp, zo_ifCond, zo_goto, zo_ifnull, zo_ifnonnull, zo_iaload, zo_baload, zo_laload, zo_aaload, zo_iastore, zo_bastore, zo_lastore, zo_arraylength, zo_getfield, zo_putfield, zo_tableswitch, zo_lookupswitch, zo_ireturn, zo_lreturn, zo_areturn, zo_return, zo_invokestatic, zo_invokevirtual, zo_new, zo_invokespecial, zo_newarray, zo_anewarray, zo_aastore, zy_0_1, zy_0_2, zy_0_3, zy_1_1, zy_1_2, zy_2_1, zy_2_2, zy_2_3, zy_3_0, zy_4_3, zy_5_1, zy_5_2, zy_6_5, zy_6_6, zy_6_7, zy_6_8, zy_6_9, zy_6_10, zy_7_2, zy_7_6, zy_7_9, zy_7_10, zy_7_11, zy_7_12, zy_7_14, zy_7_21, zy_7_30, zq_iconst, zq_bipush, zq_sipush, zq_lconst0, zq_lconst1, zq_ldc, zq_ldc_w, zq_ldc2_w, zq_iload0, zq_iload1, zq_iload2, zq_iload3, zq_iload, zq_lload0, zq_lload1, zq_lload2, zq_lload3, zq_lload, zq_aload0, zq_aload1, zq_aload2, zq_aload3, zq_aload, zq_istore0, zq_istore1, zq_istore2, zq_istore3, zq_istore, zq_lstore0, zq_lstore1, zq_lstore2, zq_lstore3, zq_lstore, zq_astore0, zq_astore0N, zq_astore1, zq_astore1N, zq_astore2, zq_astore2N, zq_astore3, zq_astore3N, zq_astore, zq_astoreN, zq_iinc, zq_iadd, zq_isub, zq_imul, zq_iand, zq_ior, zq_ixor, zq_ishl, zq_ishr, zq_iushr, zq_idiv, zq_irem, zq_ladd, zq_lsub, zq_lmul, zq_ldiv, zq_lrem, zq_lcmp, zq_i2l, zq_i2b, zq_i2s, zq_dup_i, zq_dup_r, zq_dup2, zq_null, zq_icmp_eq, zq_if_eq, zq_icmp_ne, zq_if_ne, zq_icmp_lt, zq_if_lt, zq_icmp_ge, zq_if_ge, zq_icmp_gt, zq_if_gt, zq_icmp_le, zq_if_le, zq_goto, zq_ifnull_r, zq_ifnull_n, zq_ifnonnull_r, zq_ifnonnull_n, zq_iaload, zq_baload, zq_laload, zq_aaload, zq_iastore, zq_bastore, zq_lastore, zq_alen, zq_getf, zq_put, zq_tsw, zq_lsw, zq_ireturn, zq_lreturn, zq_areturn, zq_areturnN, zq_return, zq_invokestatic, zq_invokevirtual, zq_new, zq_invokespecial, zq_newarray, zq_anewarray, zq_aastore, zi_m1, zi_0, zi_1, zi_2, zi_3, zi_4, zi_5, zi_6, zi_8, zi_16, zb_m10, zb_m4, zb_m3, zb_m2, zb_6, zb_7, zb_8, zb_9, zb_10, zb_16, zb_20, zb_23, zb_30, zb_32, zb_35, zb_46, zb_48, zb_56, zb_57, zb_59, zb_63, zb_70, zb_98, zb_99, zb_100, zb_111, zb_112, zs_192, zs_255, zs_256, zs_511, zs_512, zs_12345, zf_X7_10_0, zf_X7_19_0, zf_X7_26_0, zf_X7_33_0, zf_X7_39_0, zf_X7_43_0, zf_X7_47_0, zf_X7_50_0, zf_X7_53_0, zf_X7_56_0, zf_X7_59_0, zkc_X7_223, zkl_X7_313, zkl_X7_240, zkl_X7_305, za_C_2, za_C_3, za_C_4, za_C_5, za_C_6, za_C_8, za_C_9, za_C_10, za_C_12, za_C_14, za_C_15, za_C_16, za_C_17, za_C_22, za_C_23, za_C_24, za_C_25, dX7_actAt_0, dX7_actAt_1, dX7_actAt_2, dX7_actAt_5, dX7_actAt_8, dX7_actAt_9, dX7_actAt_12, dX7_actAt_13, dX7_actAt_16, dX7_actAt_17, dX7_actAt_19, dX7_actAt_21, dX7_actAt_24, dX7_actAt_25, dX7_actAt_26, dX7_actAt_27, dX7_actAt_30, dX7_actAt_31, dX7_actAt_34, dX7_actAt_35, dX7_actAt_38, dX7_actAt_39, cr_X7_actAt_128, cr_X7_actAt_168, wr_X2_every_B, wr_X7_mostPaid]
    rw [(CR_b hC).2.2.2.1, bt_all _ (Nat.lt_succ_of_le (CR_N hC)), show nI (2 ^ ab_num 0 (tx0 T) - 1) = nI (ab_every (tx0 T)) from rfl, bt_and]
    simp only [n_geL (n := s &&& ab_every (tx0 T)) (M := 0) 0 rfl (by omega) (by omega), n_leL (n := s &&& ab_every (tx0 T)) (M := 0) 0 rfl (by omega) (by omega), n_ltL (n := s &&& ab_every (tx0 T)) (M := 0) 0 rfl (by omega) (by omega), n_gtL (n := s &&& ab_every (tx0 T)) (M := 0) 0 rfl (by omega) (by omega), n_eqL (n := s &&& ab_every (tx0 T)) (M := 0) 0 rfl (by omega) (by omega)]
    unfold tA at hk
    refine ⟨fun c => ?_, fun c => ⟨j, s, hC, rfl, rfl, hj, ?_⟩⟩
    · rw [if_neg (fun q => q.1 c)] at hk; exact hk
    · simp only [n_lt (a := tP T j s) (b := p) (by omega) (by omega)]
      refine ⟨fun d => ?_, fun d => ?_⟩
      · rw [if_neg (fun q => by omega)] at hk; exact hk
      · rw [if_pos ⟨c, by omega⟩] at hk; exact hk
  · exact h.elim
theorem ok_X7_actAt (T : ZT) {tl : List ZE} : z_Ok (z_shC tl) yX7_actAt cX7_actAt 5 (some .int) ({ frames := 4, cells := 0, slots := 0, locals := 89 } : Room) 0 (wp_X7_actAt T) := z_Ok_of (pu_X7_actAt T) z_fX7_ok z_kX7_ok (co_X7_actAt T) ⟨by decide, by decide⟩ (by decide +kernel)
theorem rec_X7_actAt (T : ZT) {tl : List ZE} : z_rec (z_shC tl) (wp_X7_actAt T) 6 := by
  intro as S post h
  unfold wp_X7_actAt at h
  split at h
  · exact ⟨_, _, _, rfl, rfl⟩
  · exact h.elim
def wp_X7_act (T : ZT) : ZW := fun as S k => match as with
  | [.ref 0, .int a, .int b] => CR T S ∧ k (some (.int (q_act T a b))) S
  | _ => False
theorem wr_X7_act {T : ZT} {a : Int32} {b : Int32} {S : ZS} {k : Option Value → ZS → Prop} : (wp_X7_act T) [.ref 0, .int a, .int b] S k = (CR T S ∧ k (some (.int (q_act T a b))) S) := rfl
def cs_X7_act (T : ZT) : List (Nat × ZC) := [(99, (2, 0, false, (wp_X7_isKing T))), (134, (1, 0, true, wp_X7_isSet)), (156, (4, 0, false, (wp_X7_actAt T)))]
theorem cr_X7_act_99 {T : ZT} : (cs_X7_act T).lookup 99 = some (2, 0, false, (wp_X7_isKing T)) := rfl
theorem cr_X7_act_134 {T : ZT} : (cs_X7_act T).lookup 134 = some (1, 0, true, wp_X7_isSet) := rfl
theorem cr_X7_act_156 {T : ZT} : (cs_X7_act T).lookup 156 = some (4, 0, false, (wp_X7_actAt T)) := rfl
set_option maxRecDepth 20000 in
theorem co_X7_act (T : ZT) {tl : List ZE} : z_csok RX7 ({ frames := 5, cells := 0, slots := 0, locals := 113 } : Room) (z_shC tl) (cs_X7_act T) := z_cs2 (z_csV (ok_X7_isKing T) (rec_X7_isKing T) rfl (z_g 313 (by decide +kernel) rfl) (z_g 315 (by decide +kernel) rfl) (z_g 1 (by decide +kernel) rfl) (z_g 316 (by decide +kernel) rfl) (z_g 44 (by decide +kernel) rfl) rfl rfl (by decide +kernel) ⟨by decide, by decide⟩)
  (z_cs2 (z_csS ok_X7_isSet (z_g 399 (by decide +kernel) rfl) (z_g 400 (by decide +kernel) rfl) (z_g 44 (by decide +kernel) rfl) (z_g 401 (by decide +kernel) rfl) rfl rfl (by decide +kernel) ⟨by decide, by decide⟩)
  (z_cs2 (z_csV (ok_X7_actAt T) (rec_X7_actAt T) rfl (z_g 439 (by decide +kernel) rfl) (z_g 441 (by decide +kernel) rfl) (z_g 5 (by decide +kernel) rfl) (z_g 442 (by decide +kernel) rfl) (z_g 44 (by decide +kernel) rfl) rfl rfl (by decide +kernel) ⟨by decide, by decide⟩)
  (z_cs0)))
set_option maxHeartbeats 4000000 in
set_option maxRecDepth 20000 in
theorem pu_X7_act (T : ZT) {tl : List ZE} : z_Pure cX7_act 3 (z_shC tl) z_fX7 (cs_X7_act T) z_kcX7 z_klX7 (some .int) 0 (wp_X7_act T) := by
  intro as S post h
  unfold wp_X7_act at h
  split at h
  · rename_i a b
    refine ⟨Nat.le_of_ble_eq_true rfl, fun K hK => ?_⟩
    change K 0 0 [some (.ref 0), some (.int a), some (.int b)] [] S
    obtain ⟨hC, hk⟩ := h
    have hn := CR_M hC
    have hp := hC.1.2.2.1.1
    refine hK (z_in []) 100 _ _ _ _ _ (Nat.zero_le _) ?_
    simp (config := { maxSteps := 10000000 }) only [z40, z20, z10, z01, zm0, z0m, ze_s, ze_ok, zt_s, zt_t, zt_f, zl_I, zl_J, zl_R, zl_N, zl_C, zl_K, zl_M, zl_ar0, zl_ar1, zl_ar2, zl_ar3, zl_as0, zl_as1, zl_as2, zl_al, zl_gf, zl_gr, zl_pf, zl_iv, zl_ivn, zlk_n, zlk_c, ztb_n, ztb_c, zin_n, zin_1, zin_c, Int.reduceLT, decide_true, decide_false, Bool.true_and, Bool.and_true, List.length_cons, List.length_nil, Int.reduceSub, Int.reduceEq, Int.natCast_zero, zk_s, z_in_n, z_in_c, z_gt_0, z_gt_s, zst_0, zst_1, zst_s, zsl_0, zsl_1, zsl_s, zc_n, zc_i, zc_l, zc_r, zc_u, zca_n, zca_i, zca_l, zca_r, zca_u, zrt_i, zrt_z, zrt_o, z_cal_0, z_cal_s, true_and, and_true, List.nil_append, List.cons_append, Option.toList_some, Option.toList_none, Nat.reduceAdd, Nat.reduceBEq, Nat.reduceLT, Nat.reduceLeDiff, Nat.reduceSub, Int.reduceAdd, Int.reduceLE, Int.reduceToNat, Int.cast_ofNat_Int, Bool.or_true, Bool.true_or, Bool.or_false, Bool.false_or, Nat.le_refl, Nat.zero_le, or_true, true_or, or_false, false_or, not_true_eq_false, not_false_eq_true, not_false_iff, false_implies, true_implies, eq_self, zo_iconst, zo_bipush, zo_sipush, zo_lconst, zo_ldc, zo_ldc_w, zo_ldc2_w, zo_iload_n, zo_iload, zo_lload_n, zo_lload, zo_aload_n, zo_aload, zo_istore_n, zo_istore, zo_lstore_n, zo_lstore, zo_astore_n, zo_astore, zo_iinc, zo_iadd, zo_isub, zo_imul, zo_iand, zo_ior, zo_ixor, zo_ishl, zo_ishr, zo_iushr, zo_idiv, zo_irem, zo_ladd, zo_lsub, zo_lmul, zo_ldiv, zo_lrem, zo_lcmp, zo_i2l, zo_i2b, zo_i2s, zo_dup, zo_dup2, zo_aconst_null, zo_if_icmp, zo_ifCond, zo_goto, zo_ifnull, zo_ifnonnull, zo_iaload, zo_baload, zo_laload, zo_aaload, zo_iastore, zo_bastore, zo_lastore, zo_arraylength, zo_getfield, zo_putfield, zo_tableswitch, zo_lookupswitch, zo_ireturn, zo_lreturn, zo_areturn, zo_return, zo_invokestatic, zo_invokevirtual, zo_new, zo_invokespecial, zo_newarray, zo_anewarray, zo_aastore, zy_0_1, zy_0_2, zy_0_3, zy_1_1, zy_1_2, zy_2_1, zy_2_2, zy_2_3, zy_3_0, zy_4_3, zy_5_1, zy_5_2, zy_6_5, zy_6_6, zy_6_7, zy_6_8, zy_6_9, zy_6_10, zy_7_2, zy_7_6, zy_7_9, zy_7_10, zy_7_11, zy_7_12, zy_7_14, zy_7_21, zy_7_30, zq_iconst, zq_bipush, zq_sipush, zq_lconst0, zq_lconst1, zq_ldc, zq_ldc_w, zq_ldc2_w, zq_iload0, zq_iload1, zq_iload2, zq_iload3, zq_iload, zq_lload0, zq_lload1, zq_lload2, zq_lload3, zq_lload, zq_aload0, zq_aload1, zq_aload2, zq_aload3, zq_aload, zq_istore0, zq_istore1, zq_istore2, zq_istore3, zq_istore, zq_lstore0, zq_lstore1, zq_lstore2, zq_lstore3, zq_lstore, zq_astore0, zq_astore0N, zq_astore1, zq_astore1N, zq_astore2, zq_astore2N, zq_astore3, zq_astore3N, zq_astore, zq_astoreN, zq_iinc, zq_iadd, zq_isub, zq_imul, zq_iand, zq_ior, zq_ixor, zq_ishl, zq_ishr, zq_iushr, zq_idiv, zq_irem, zq_ladd, zq_lsub, zq_lmul, zq_ldiv, zq_lrem, zq_lcmp, zq_i2l, zq_i2b, zq_i2s, zq_dup_i, zq_dup_r, zq_dup2, zq_null, zq_icmp_eq, zq_if_eq, zq_icmp_ne, zq_if_ne, zq_icmp_lt, zq_if_lt, zq_icmp_ge, zq_if_ge, zq_icmp_gt, zq_if_gt, zq_icmp_le, zq_if_le, zq_goto, zq_ifnull_r, zq_ifnull_n, zq_ifnonnull_r, zq_ifnonnull_n, zq_iaload, zq_baload, zq_laload, zq_aaload, zq_iastore, zq_bastore, zq_lastore, zq_alen, zq_getf, zq_put, zq_tsw, zq_lsw, zq_ireturn, zq_lreturn, zq_areturn, zq_areturnN, zq_return, zq_invokestatic, zq_invokevirtual, zq_new, zq_invokespecial, zq_newarray, zq_anewarray, zq_aastore, zi_m1, zi_0, zi_1, zi_2, zi_3, zi_4, zi_5, zi_6, zi_8, zi_16, zb_m10, zb_m4, zb_m3, zb_m2, zb_6, zb_7, zb_8, zb_9, zb_10, zb_16, zb_20, zb_23, zb_30, zb_32, zb_35, zb_46, zb_48, zb_56, zb_57, zb_59, zb_63, zb_70, zb_98, zb_99, zb_100, zb_111, zb_112, zs_192, zs_255, zs_256, zs_511, zs_512, zs_12345, zf_X7_10_0, zf_X7_19_0, zf_X7_26_0, zf_X7_33_0, zf_X7_39_0, zf_X7_43_0, zf_X7_47_0, zf_X7_50_0, zf_X7_53_0, zf_X7_56_0, zf_X7_59_0, zkc_X7_223, zkl_X7_313, zkl_X7_240, zkl_X7_305, za_C_2, za_C_3, za_C_4, za_C_5, za_C_6, za_C_8, za_C_9, za_C_10, za_C_12, za_C_14, za_C_15, za_C_16, za_C_17, za_C_22, za_C_23, za_C_24, za_C_25, dX7_act_0, dX7_act_1, dX7_act_2, dX7_act_5, dX7_act_8, dX7_act_9, dX7_act_12, dX7_act_15, dX7_act_16, dX7_act_17, dX7_act_18, dX7_act_19, dX7_act_22, dX7_act_25, dX7_act_28, dX7_act_30, cr_X7_act_99, cr_X7_act_134, cr_X7_act_156, wr_X7_isKing, wr_X7_isSet, wr_X7_actAt]
    have e1 : (0 ≤ b ∧ b ≤ 511) ↔ i_in b 512 := w_in (m := 511) (by decide)
    rw [e1]
    unfold q_act at hk
    have bad : ¬ (i_in a (tM T) ∧ i_in b 512) → post (some (.int (-2))) S := by
      intro q
      rw [if_neg q] at hk; exact hk
    refine ⟨hC, fun c => ⟨fun d => ?_, fun d => bad (fun q => d q.2)⟩, fun c => bad (fun q => c q.1)⟩
    rw [if_pos ⟨c, d⟩] at hk
    obtain ⟨ea, ha⟩ := i_inI c (by omega)
    obtain ⟨eb, hb⟩ := i_inI d (by omega)
    exact ⟨cn a, cn b, tpr T, hC, ea, eb, (CR_nums hC).1, ha, hb, by omega, hk⟩
  · exact h.elim
theorem ok_X7_act (T : ZT) {tl : List ZE} : z_Ok (z_shC tl) yX7_act cX7_act 3 (some .int) ({ frames := 5, cells := 0, slots := 0, locals := 113 } : Room) 0 (wp_X7_act T) := z_Ok_of (pu_X7_act T) z_fX7_ok z_kX7_ok (co_X7_act T) ⟨by decide, by decide⟩ (by decide +kernel)
theorem rec_X7_act (T : ZT) {tl : List ZE} : z_rec (z_shC tl) (wp_X7_act T) 6 := by
  intro as S post h
  unfold wp_X7_act at h
  split at h
  · exact ⟨_, _, _, rfl, rfl⟩
  · exact h.elim
def wp_X7_refused : ZW := fun as S k => match as with
  | [.int r] => k (some (.long (-9223372036854775808 - r.toInt64))) S
  | _ => False
theorem wr_X7_refused {r : Int32} {S : ZS} {k : Option Value → ZS → Prop} : wp_X7_refused [.int r] S k = (k (some (.long (-9223372036854775808 - r.toInt64))) S) := rfl
def cs_X7_refused : List (Nat × ZC) := []
set_option maxRecDepth 20000 in
theorem co_X7_refused {tl : List ZE} : z_csok RX7 ({ frames := 0, cells := 0, slots := 0, locals := 0 } : Room) (z_shC tl) cs_X7_refused := z_cs0
set_option maxHeartbeats 4000000 in
set_option maxRecDepth 20000 in
theorem pu_X7_refused {tl : List ZE} : z_Pure cX7_refused 1 (z_shC tl) z_fX7 cs_X7_refused z_kcX7 z_klX7 (some .long) 0 wp_X7_refused := by
  intro as S post h
  unfold wp_X7_refused at h
  split at h
  · rename_i r
    refine ⟨Nat.le_of_ble_eq_true rfl, fun K hK => ?_⟩
    change K 0 0 [some (.int r)] [] S
    refine hK (z_in []) 60 _ _ _ _ _ (Nat.zero_le _) ?_
    simp (config := { maxSteps := 10000000 }) only [z40, z20, z10, z01, zm0, z0m, ze_s, ze_ok, zt_s, zt_t, zt_f, zl_I, zl_J, zl_R, zl_N, zl_C, zl_K, zl_M, zl_ar0, zl_ar1, zl_ar2, zl_ar3, zl_as0, zl_as1, zl_as2, zl_al, zl_gf, zl_gr, zl_pf, zl_iv, zl_ivn, zlk_n, zlk_c, ztb_n, ztb_c, zin_n, zin_1, zin_c, Int.reduceLT, decide_true, decide_false, Bool.true_and, Bool.and_true, List.length_cons, List.length_nil, Int.reduceSub, Int.reduceEq, Int.natCast_zero, zk_s, z_in_n, z_in_c, z_gt_0, z_gt_s, zst_0, zst_1, zst_s, zsl_0, zsl_1, zsl_s, zc_n, zc_i, zc_l, zc_r, zc_u, zca_n, zca_i, zca_l, zca_r, zca_u, zrt_i, zrt_z, zrt_o, z_cal_0, z_cal_s, true_and, and_true, List.nil_append, List.cons_append, Option.toList_some, Option.toList_none, Nat.reduceAdd, Nat.reduceBEq, Nat.reduceLT, Nat.reduceLeDiff, Nat.reduceSub, Int.reduceAdd, Int.reduceLE, Int.reduceToNat, Int.cast_ofNat_Int, Bool.or_true, Bool.true_or, Bool.or_false, Bool.false_or, Nat.le_refl, Nat.zero_le, or_true, true_or, or_false, false_or, not_true_eq_false, not_false_eq_true, not_false_iff, false_implies, true_implies, eq_self, zo_iconst, zo_bipush, zo_sipush, zo_lconst, zo_ldc, zo_ldc_w, zo_ldc2_w, zo_iload_n, zo_iload, zo_lload_n, zo_lload, zo_aload_n, zo_aload, zo_istore_n, zo_istore, zo_lstore_n, zo_lstore, zo_astore_n, zo_astore, zo_iinc, zo_iadd, zo_isub, zo_imul, zo_iand, zo_ior, zo_ixor, zo_ishl, zo_ishr, zo_iushr, zo_idiv, zo_irem, zo_ladd, zo_lsub, zo_lmul, zo_ldiv, zo_lrem, zo_lcmp, zo_i2l, zo_i2b, zo_i2s, zo_dup, zo_dup2, zo_aconst_null, zo_if_icmp, zo_ifCond, zo_goto, zo_ifnull, zo_ifnonnull, zo_iaload, zo_baload, zo_laload, zo_aaload, zo_iastore, zo_bastore, zo_lastore, zo_arraylength, zo_getfield, zo_putfield, zo_tableswitch, zo_lookupswitch, zo_ireturn, zo_lreturn, zo_areturn, zo_return, zo_invokestatic, zo_invokevirtual, zo_new, zo_invokespecial, zo_newarray, zo_anewarray, zo_aastore, zy_0_1, zy_0_2, zy_0_3, zy_1_1, zy_1_2, zy_2_1, zy_2_2, zy_2_3, zy_3_0, zy_4_3, zy_5_1, zy_5_2, zy_6_5, zy_6_6, zy_6_7, zy_6_8, zy_6_9, zy_6_10, zy_7_2, zy_7_6, zy_7_9, zy_7_10, zy_7_11, zy_7_12, zy_7_14, zy_7_21, zy_7_30, zq_iconst, zq_bipush, zq_sipush, zq_lconst0, zq_lconst1, zq_ldc, zq_ldc_w, zq_ldc2_w, zq_iload0, zq_iload1, zq_iload2, zq_iload3, zq_iload, zq_lload0, zq_lload1, zq_lload2, zq_lload3, zq_lload, zq_aload0, zq_aload1, zq_aload2, zq_aload3, zq_aload, zq_istore0, zq_istore1, zq_istore2, zq_istore3, zq_istore, zq_lstore0, zq_lstore1, zq_lstore2, zq_lstore3, zq_lstore, zq_astore0, zq_astore0N, zq_astore1, zq_astore1N, zq_astore2, zq_astore2N, zq_astore3, zq_astore3N, zq_astore, zq_astoreN, zq_iinc, zq_iadd, zq_isub, zq_imul, zq_iand, zq_ior, zq_ixor, zq_ishl, zq_ishr, zq_iushr, zq_idiv, zq_irem, zq_ladd, zq_lsub, zq_lmul, zq_ldiv, zq_lrem, zq_lcmp, zq_i2l, zq_i2b, zq_i2s, zq_dup_i, zq_dup_r, zq_dup2, zq_null, zq_icmp_eq, zq_if_eq, zq_icmp_ne, zq_if_ne, zq_icmp_lt, zq_if_lt, zq_icmp_ge, zq_if_ge, zq_icmp_gt, zq_if_gt, zq_icmp_le, zq_if_le, zq_goto, zq_ifnull_r, zq_ifnull_n, zq_ifnonnull_r, zq_ifnonnull_n, zq_iaload, zq_baload, zq_laload, zq_aaload, zq_iastore, zq_bastore, zq_lastore, zq_alen, zq_getf, zq_put, zq_tsw, zq_lsw, zq_ireturn, zq_lreturn, zq_areturn, zq_areturnN, zq_return, zq_invokestatic, zq_invokevirtual, zq_new, zq_invokespecial, zq_newarray, zq_anewarray, zq_aastore, zi_m1, zi_0, zi_1, zi_2, zi_3, zi_4, zi_5, zi_6, zi_8, zi_16, zb_m10, zb_m4, zb_m3, zb_m2, zb_6, zb_7, zb_8, zb_9, zb_10, zb_16, zb_20, zb_23, zb_30, zb_32, zb_35, zb_46, zb_48, zb_56, zb_57, zb_59, zb_63, zb_70, zb_98, zb_99, zb_100, zb_111, zb_112, zs_192, zs_255, zs_256, zs_511, zs_512, zs_12345, zf_X7_10_0, zf_X7_19_0, zf_X7_26_0, zf_X7_33_0, zf_X7_39_0, zf_X7_43_0, zf_X7_47_0, zf_X7_50_0, zf_X7_53_0, zf_X7_56_0, zf_X7_59_0, zkc_X7_223, zkl_X7_313, zkl_X7_240, zkl_X7_305, za_C_2, za_C_3, za_C_4, za_C_5, za_C_6, za_C_8, za_C_9, za_C_10, za_C_12, za_C_14, za_C_15, za_C_16, za_C_17, za_C_22, za_C_23, za_C_24, za_C_25, dX7_refused_0, dX7_refused_3, dX7_refused_4, dX7_refused_5, dX7_refused_6]
    exact h
  · exact h.elim
theorem ok_X7_refused {tl : List ZE} : z_Ok (z_shC tl) yX7_refused cX7_refused 1 (some .long) ({ frames := 0, cells := 0, slots := 0, locals := 0 } : Room) 0 wp_X7_refused := z_Ok_of pu_X7_refused z_fX7_ok z_kX7_ok co_X7_refused ⟨by decide, by decide⟩ (by decide +kernel)
def wp_X7_whole : ZW := fun as S k => match as with
  | [.long n, .int w] => (w = 0 → k (some (.long n)) S) ∧ (¬ w = 0 → k (some (.long 1)) S)
  | _ => False
theorem wr_X7_whole {n : Int64} {w : Int32} {S : ZS} {k : Option Value → ZS → Prop} : wp_X7_whole [.long n, .int w] S k = ((w = 0 → k (some (.long n)) S) ∧ (¬ w = 0 → k (some (.long 1)) S)) := rfl
def cs_X7_whole : List (Nat × ZC) := []
set_option maxRecDepth 20000 in
theorem co_X7_whole {tl : List ZE} : z_csok RX7 ({ frames := 0, cells := 0, slots := 0, locals := 0 } : Room) (z_shC tl) cs_X7_whole := z_cs0
set_option maxHeartbeats 4000000 in
set_option maxRecDepth 20000 in
theorem pu_X7_whole {tl : List ZE} : z_Pure cX7_whole 3 (z_shC tl) z_fX7 cs_X7_whole z_kcX7 z_klX7 (some .long) 0 wp_X7_whole := by
  intro as S post h
  unfold wp_X7_whole at h
  split at h
  · rename_i n w
    refine ⟨Nat.le_of_ble_eq_true rfl, fun K hK => ?_⟩
    change K 0 0 [some (.long n), none, some (.int w)] [] S
    refine hK (z_in []) 60 _ _ _ _ _ (Nat.zero_le _) ?_
    simp (config := { maxSteps := 10000000 }) only [z40, z20, z10, z01, zm0, z0m, ze_s, ze_ok, zt_s, zt_t, zt_f, zl_I, zl_J, zl_R, zl_N, zl_C, zl_K, zl_M, zl_ar0, zl_ar1, zl_ar2, zl_ar3, zl_as0, zl_as1, zl_as2, zl_al, zl_gf, zl_gr, zl_pf, zl_iv, zl_ivn, zlk_n, zlk_c, ztb_n, ztb_c, zin_n, zin_1, zin_c, Int.reduceLT, decide_true, decide_false, Bool.true_and, Bool.and_true, List.length_cons, List.length_nil, Int.reduceSub, Int.reduceEq, Int.natCast_zero, zk_s, z_in_n, z_in_c, z_gt_0, z_gt_s, zst_0, zst_1, zst_s, zsl_0, zsl_1, zsl_s, zc_n, zc_i, zc_l, zc_r, zc_u, zca_n, zca_i, zca_l, zca_r, zca_u, zrt_i, zrt_z, zrt_o, z_cal_0, z_cal_s, true_and, and_true, List.nil_append, List.cons_append, Option.toList_some, Option.toList_none, Nat.reduceAdd, Nat.reduceBEq, Nat.reduceLT, Nat.reduceLeDiff, Nat.reduceSub, Int.reduceAdd, Int.reduceLE, Int.reduceToNat, Int.cast_ofNat_Int, Bool.or_true, Bool.true_or, Bool.or_false, Bool.false_or, Nat.le_refl, Nat.zero_le, or_true, true_or, or_false, false_or, not_true_eq_false, not_false_eq_true, not_false_iff, false_implies, true_implies, eq_self, zo_iconst, zo_bipush, zo_sipush, zo_lconst, zo_ldc, zo_ldc_w, zo_ldc2_w, zo_iload_n, zo_iload, zo_lload_n, zo_lload, zo_aload_n, zo_aload, zo_istore_n, zo_istore, zo_lstore_n, zo_lstore, zo_astore_n, zo_astore, zo_iinc, zo_iadd, zo_isub, zo_imul, zo_iand, zo_ior, zo_ixor, zo_ishl, zo_ishr, zo_iushr, zo_idiv, zo_irem, zo_ladd, zo_lsub, zo_lmul, zo_ldiv, zo_lrem, zo_lcmp, zo_i2l, zo_i2b, zo_i2s, zo_dup, zo_dup2, zo_aconst_null, zo_if_icmp, zo_ifCond, zo_goto, zo_ifnull, zo_ifnonnull, zo_iaload, zo_baload, zo_laload, zo_aaload, zo_iastore, zo_bastore, zo_lastore, zo_arraylength, zo_getfield, zo_putfield, zo_tableswitch, zo_lookupswitch, zo_ireturn, zo_lreturn, zo_areturn, zo_return, zo_invokestatic, zo_invokevirtual, zo_new, zo_invokespecial, zo_newarray, zo_anewarray, zo_aastore, zy_0_1, zy_0_2, zy_0_3, zy_1_1, zy_1_2, zy_2_1, zy_2_2, zy_2_3, zy_3_0, zy_4_3, zy_5_1, zy_5_2, zy_6_5, zy_6_6, zy_6_7, zy_6_8, zy_6_9, zy_6_10, zy_7_2, zy_7_6, zy_7_9, zy_7_10, zy_7_11, zy_7_12, zy_7_14, zy_7_21, zy_7_30, zq_iconst, zq_bipush, zq_sipush, zq_lconst0, zq_lconst1, zq_ldc, zq_ldc_w, zq_ldc2_w, zq_iload0, zq_iload1, zq_iload2, zq_iload3, zq_iload, zq_lload0, zq_lload1, zq_lload2, zq_lload3, zq_lload, zq_aload0, zq_aload1, zq_aload2, zq_aload3, zq_aload, zq_istore0, zq_istore1, zq_istore2, zq_istore3, zq_istore, zq_lstore0, zq_lstore1, zq_lstore2, zq_lstore3, zq_lstore, zq_astore0, zq_astore0N, zq_astore1, zq_astore1N, zq_astore2, zq_astore2N, zq_astore3, zq_astore3N, zq_astore, zq_astoreN, zq_iinc, zq_iadd, zq_isub, zq_imul, zq_iand, zq_ior, zq_ixor, zq_ishl, zq_ishr, zq_iushr, zq_idiv, zq_irem, zq_ladd, zq_lsub, zq_lmul, zq_ldiv, zq_lrem, zq_lcmp, zq_i2l, zq_i2b, zq_i2s, zq_dup_i, zq_dup_r, zq_dup2, zq_null, zq_icmp_eq, zq_if_eq, zq_icmp_ne, zq_if_ne, zq_icmp_lt, zq_if_lt, zq_icmp_ge, zq_if_ge, zq_icmp_gt, zq_if_gt, zq_icmp_le, zq_if_le, zq_goto, zq_ifnull_r, zq_ifnull_n, zq_ifnonnull_r, zq_ifnonnull_n, zq_iaload, zq_baload, zq_laload, zq_aaload, zq_iastore, zq_bastore, zq_lastore, zq_alen, zq_getf, zq_put, zq_tsw, zq_lsw, zq_ireturn, zq_lreturn, zq_areturn, zq_areturnN, zq_return, zq_invokestatic, zq_invokevirtual, zq_new, zq_invokespecial, zq_newarray, zq_anewarray, zq_aastore, zi_m1, zi_0, zi_1, zi_2, zi_3, zi_4, zi_5, zi_6, zi_8, zi_16, zb_m10, zb_m4, zb_m3, zb_m2, zb_6, zb_7, zb_8, zb_9, zb_10, zb_16, zb_20, zb_23, zb_30, zb_32, zb_35, zb_46, zb_48, zb_56, zb_57, zb_59, zb_63, zb_70, zb_98, zb_99, zb_100, zb_111, zb_112, zs_192, zs_255, zs_256, zs_511, zs_512, zs_12345, zf_X7_10_0, zf_X7_19_0, zf_X7_26_0, zf_X7_33_0, zf_X7_39_0, zf_X7_43_0, zf_X7_47_0, zf_X7_50_0, zf_X7_53_0, zf_X7_56_0, zf_X7_59_0, zkc_X7_223, zkl_X7_313, zkl_X7_240, zkl_X7_305, za_C_2, za_C_3, za_C_4, za_C_5, za_C_6, za_C_8, za_C_9, za_C_10, za_C_12, za_C_14, za_C_15, za_C_16, za_C_17, za_C_22, za_C_23, za_C_24, za_C_25, dX7_whole_0, dX7_whole_1, dX7_whole_4, dX7_whole_5, dX7_whole_8, dX7_whole_9]
    exact h
  · exact h.elim
theorem ok_X7_whole {tl : List ZE} : z_Ok (z_shC tl) yX7_whole cX7_whole 3 (some .long) ({ frames := 0, cells := 0, slots := 0, locals := 0 } : Room) 0 wp_X7_whole := z_Ok_of pu_X7_whole z_fX7_ok z_kX7_ok co_X7_whole ⟨by decide, by decide⟩ (by decide +kernel)
theorem n_l {n : Nat} (h : n < 2147483648) : (nI n).toInt64 = lN n := nI_l h
theorem n_m2 : (-9223372036854775808 : Int64) - (-2 : Int32).toInt64 = q_no (-2) := by decide
theorem n_m3 : (-9223372036854775808 : Int64) - (-3 : Int32).toInt64 = q_no (-3) := by decide
def wp_X7_value (T : ZT) : ZW := fun as S k => match as with
  | [.ref 0, .int a, .int b, .int w] => CR T S ∧ k (some (.long (q_value T a b w))) S
  | _ => False
theorem wr_X7_value {T : ZT} {a : Int32} {b : Int32} {w : Int32} {S : ZS} {k : Option Value → ZS → Prop} : (wp_X7_value T) [.ref 0, .int a, .int b, .int w] S k = (CR T S ∧ k (some (.long (q_value T a b w))) S) := rfl
def cs_X7_value (T : ZT) : List (Nat × ZC) := [(99, (2, 0, false, (wp_X7_isKing T))), (134, (1, 0, true, wp_X7_isSet)), (67, (3, 0, true, wp_X7_within)), (160, (1, 0, true, wp_X7_refused)), (156, (4, 0, false, (wp_X7_actAt T))), (140, (3, 0, false, (wp_X7_gainOf T))), (164, (2, 0, true, wp_X7_whole))]
theorem cr_X7_value_99 {T : ZT} : (cs_X7_value T).lookup 99 = some (2, 0, false, (wp_X7_isKing T)) := rfl
theorem cr_X7_value_134 {T : ZT} : (cs_X7_value T).lookup 134 = some (1, 0, true, wp_X7_isSet) := rfl
theorem cr_X7_value_67 {T : ZT} : (cs_X7_value T).lookup 67 = some (3, 0, true, wp_X7_within) := rfl
theorem cr_X7_value_160 {T : ZT} : (cs_X7_value T).lookup 160 = some (1, 0, true, wp_X7_refused) := rfl
theorem cr_X7_value_156 {T : ZT} : (cs_X7_value T).lookup 156 = some (4, 0, false, (wp_X7_actAt T)) := rfl
theorem cr_X7_value_140 {T : ZT} : (cs_X7_value T).lookup 140 = some (3, 0, false, (wp_X7_gainOf T)) := rfl
theorem cr_X7_value_164 {T : ZT} : (cs_X7_value T).lookup 164 = some (2, 0, true, wp_X7_whole) := rfl
set_option maxRecDepth 20000 in
theorem co_X7_value (T : ZT) {tl : List ZE} : z_csok RX7 ({ frames := 5, cells := 0, slots := 0, locals := 113 } : Room) (z_shC tl) (cs_X7_value T) := z_cs2 (z_csV (ok_X7_isKing T) (rec_X7_isKing T) rfl (z_g 313 (by decide +kernel) rfl) (z_g 315 (by decide +kernel) rfl) (z_g 1 (by decide +kernel) rfl) (z_g 316 (by decide +kernel) rfl) (z_g 44 (by decide +kernel) rfl) rfl rfl (by decide +kernel) ⟨by decide, by decide⟩)
  (z_cs2 (z_csS ok_X7_isSet (z_g 399 (by decide +kernel) rfl) (z_g 400 (by decide +kernel) rfl) (z_g 44 (by decide +kernel) rfl) (z_g 401 (by decide +kernel) rfl) rfl rfl (by decide +kernel) ⟨by decide, by decide⟩)
  (z_cs2 (z_csS ok_X7_within (z_g 210 (by decide +kernel) rfl) (z_g 211 (by decide +kernel) rfl) (z_g 44 (by decide +kernel) rfl) (z_g 212 (by decide +kernel) rfl) rfl rfl (by decide +kernel) ⟨by decide, by decide⟩)
  (z_cs2 (z_csS ok_X7_refused (z_g 454 (by decide +kernel) rfl) (z_g 455 (by decide +kernel) rfl) (z_g 44 (by decide +kernel) rfl) (z_g 456 (by decide +kernel) rfl) rfl rfl (by decide +kernel) ⟨by decide, by decide⟩)
  (z_cs2 (z_csV (ok_X7_actAt T) (rec_X7_actAt T) rfl (z_g 439 (by decide +kernel) rfl) (z_g 441 (by decide +kernel) rfl) (z_g 5 (by decide +kernel) rfl) (z_g 442 (by decide +kernel) rfl) (z_g 44 (by decide +kernel) rfl) rfl rfl (by decide +kernel) ⟨by decide, by decide⟩)
  (z_cs2 (z_csV (ok_X7_gainOf T) (rec_X7_gainOf T) rfl (z_g 411 (by decide +kernel) rfl) (z_g 413 (by decide +kernel) rfl) (z_g 4 (by decide +kernel) rfl) (z_g 414 (by decide +kernel) rfl) (z_g 44 (by decide +kernel) rfl) rfl rfl (by decide +kernel) ⟨by decide, by decide⟩)
  (z_cs2 (z_csS ok_X7_whole (z_g 458 (by decide +kernel) rfl) (z_g 459 (by decide +kernel) rfl) (z_g 44 (by decide +kernel) rfl) (z_g 460 (by decide +kernel) rfl) rfl rfl (by decide +kernel) ⟨by decide, by decide⟩)
  (z_cs0)))))))
set_option maxHeartbeats 4000000 in
set_option maxRecDepth 20000 in
theorem pu_X7_value (T : ZT) {tl : List ZE} : z_Pure cX7_value 5 (z_shC tl) z_fX7 (cs_X7_value T) z_kcX7 z_klX7 (some .long) 0 (wp_X7_value T) := by
  intro as S post h
  unfold wp_X7_value at h
  split at h
  · rename_i a b w
    refine ⟨Nat.le_of_ble_eq_true rfl, fun K hK => ?_⟩
    change K 0 0 [some (.ref 0), some (.int a), some (.int b), some (.int w), none] [] S
    obtain ⟨hC, hk⟩ := h
    have hn := CR_M hC
    have hp := hC.1.2.2.1.1
    refine hK (z_in []) 100 _ _ _ _ _ (Nat.zero_le _) ?_
    simp (config := { maxSteps := 10000000 }) only [z40, z20, z10, z01, zm0, z0m, ze_s, ze_ok, zt_s, zt_t, zt_f, zl_I, zl_J, zl_R, zl_N, zl_C, zl_K, zl_M, zl_ar0, zl_ar1, zl_ar2, zl_ar3, zl_as0, zl_as1, zl_as2, zl_al, zl_gf, zl_gr, zl_pf, zl_iv, zl_ivn, zlk_n, zlk_c, ztb_n, ztb_c, zin_n, zin_1, zin_c, Int.reduceLT, decide_true, decide_false, Bool.true_and, Bool.and_true, List.length_cons, List.length_nil, Int.reduceSub, Int.reduceEq, Int.natCast_zero, zk_s, z_in_n, z_in_c, z_gt_0, z_gt_s, zst_0, zst_1, zst_s, zsl_0, zsl_1, zsl_s, zc_n, zc_i, zc_l, zc_r, zc_u, zca_n, zca_i, zca_l, zca_r, zca_u, zrt_i, zrt_z, zrt_o, z_cal_0, z_cal_s, true_and, and_true, List.nil_append, List.cons_append, Option.toList_some, Option.toList_none, Nat.reduceAdd, Nat.reduceBEq, Nat.reduceLT, Nat.reduceLeDiff, Nat.reduceSub, Int.reduceAdd, Int.reduceLE, Int.reduceToNat, Int.cast_ofNat_Int, Bool.or_true, Bool.true_or, Bool.or_false, Bool.false_or, Nat.le_refl, Nat.zero_le, or_true, true_or, or_false, false_or, not_true_eq_false, not_false_eq_true, not_false_iff, false_implies, true_implies, eq_self, zo_iconst, zo_bipush, zo_sipush, zo_lconst, zo_ldc, zo_ldc_w, zo_ldc2_w, zo_iload_n, zo_iload, zo_lload_n, zo_lload, zo_aload_n, zo_aload, zo_istore_n, zo_istore, zo_lstore_n, zo_lstore, zo_astore_n, zo_astore, zo_iinc, zo_iadd, zo_isub, zo_imul, zo_iand, zo_ior, zo_ixor, zo_ishl, zo_ishr, zo_iushr, zo_idiv, zo_irem, zo_ladd, zo_lsub, zo_lmul, zo_ldiv, zo_lrem, zo_lcmp, zo_i2l, zo_i2b, zo_i2s, zo_dup, zo_dup2, zo_aconst_null, zo_if_icmp, zo_ifCond, zo_goto, zo_ifnull, zo_ifnonnull, zo_iaload, zo_baload, zo_laload, zo_aaload, zo_iastore, zo_bastore, zo_lastore, zo_arraylength, zo_getfield, zo_putfield, zo_tableswitch, zo_lookupswitch, zo_ireturn, zo_lreturn, zo_areturn, zo_return, zo_invokestatic, zo_invokevirtual, zo_new, zo_invokespecial, zo_newarray, zo_anewarray, zo_aastore, zy_0_1, zy_0_2, zy_0_3, zy_1_1, zy_1_2, zy_2_1, zy_2_2, zy_2_3, zy_3_0, zy_4_3, zy_5_1, zy_5_2, zy_6_5, zy_6_6, zy_6_7, zy_6_8, zy_6_9, zy_6_10, zy_7_2, zy_7_6, zy_7_9, zy_7_10, zy_7_11, zy_7_12, zy_7_14, zy_7_21, zy_7_30, zq_iconst, zq_bipush, zq_sipush, zq_lconst0, zq_lconst1, zq_ldc, zq_ldc_w, zq_ldc2_w, zq_iload0, zq_iload1, zq_iload2, zq_iload3, zq_iload, zq_lload0, zq_lload1, zq_lload2, zq_lload3, zq_lload, zq_aload0, zq_aload1, zq_aload2, zq_aload3, zq_aload, zq_istore0, zq_istore1, zq_istore2, zq_istore3, zq_istore, zq_lstore0, zq_lstore1, zq_lstore2, zq_lstore3, zq_lstore, zq_astore0, zq_astore0N, zq_astore1, zq_astore1N, zq_astore2, zq_astore2N, zq_astore3, zq_astore3N, zq_astore, zq_astoreN, zq_iinc, zq_iadd, zq_isub, zq_imul, zq_iand, zq_ior, zq_ixor, zq_ishl, zq_ishr, zq_iushr, zq_idiv, zq_irem, zq_ladd, zq_lsub, zq_lmul, zq_ldiv, zq_lrem, zq_lcmp, zq_i2l, zq_i2b, zq_i2s, zq_dup_i, zq_dup_r, zq_dup2, zq_null, zq_icmp_eq, zq_if_eq, zq_icmp_ne, zq_if_ne, zq_icmp_lt, zq_if_lt, zq_icmp_ge, zq_if_ge, zq_icmp_gt, zq_if_gt, zq_icmp_le, zq_if_le, zq_goto, zq_ifnull_r, zq_ifnull_n, zq_ifnonnull_r, zq_ifnonnull_n, zq_iaload, zq_baload, zq_laload, zq_aaload, zq_iastore, zq_bastore, zq_lastore, zq_alen, zq_getf, zq_put, zq_tsw, zq_lsw, zq_ireturn, zq_lreturn, zq_areturn, zq_areturnN, zq_return, zq_invokestatic, zq_invokevirtual, zq_new, zq_invokespecial, zq_newarray, zq_anewarray, zq_aastore, zi_m1, zi_0, zi_1, zi_2, zi_3, zi_4, zi_5, zi_6, zi_8, zi_16, zb_m10, zb_m4, zb_m3, zb_m2, zb_6, zb_7, zb_8, zb_9, zb_10, zb_16, zb_20, zb_23, zb_30, zb_32, zb_35, zb_46, zb_48, zb_56, zb_57, zb_59, zb_63, zb_70, zb_98, zb_99, zb_100, zb_111, zb_112, zs_192, zs_255, zs_256, zs_511, zs_512, zs_12345, zf_X7_10_0, zf_X7_19_0, zf_X7_26_0, zf_X7_33_0, zf_X7_39_0, zf_X7_43_0, zf_X7_47_0, zf_X7_50_0, zf_X7_53_0, zf_X7_56_0, zf_X7_59_0, zkc_X7_223, zkl_X7_313, zkl_X7_240, zkl_X7_305, za_C_2, za_C_3, za_C_4, za_C_5, za_C_6, za_C_8, za_C_9, za_C_10, za_C_12, za_C_14, za_C_15, za_C_16, za_C_17, za_C_22, za_C_23, za_C_24, za_C_25, dX7_value_0, dX7_value_1, dX7_value_2, dX7_value_5, dX7_value_8, dX7_value_9, dX7_value_12, dX7_value_15, dX7_value_16, dX7_value_17, dX7_value_18, dX7_value_21, dX7_value_24, dX7_value_26, dX7_value_29, dX7_value_30, dX7_value_31, dX7_value_32, dX7_value_33, dX7_value_34, dX7_value_37, dX7_value_40, dX7_value_41, dX7_value_44, dX7_value_45, dX7_value_48, dX7_value_49, dX7_value_51, dX7_value_53, dX7_value_56, dX7_value_57, dX7_value_58, dX7_value_59, dX7_value_62, dX7_value_63, dX7_value_66, dX7_value_67, dX7_value_68, dX7_value_71, dX7_value_72, dX7_value_73, dX7_value_76, cr_X7_value_99, cr_X7_value_134, cr_X7_value_67, cr_X7_value_160, cr_X7_value_156, cr_X7_value_140, cr_X7_value_164, wr_X7_isKing, wr_X7_isSet, wr_X7_within, wr_X7_refused, wr_X7_actAt, wr_X7_gainOf, wr_X7_whole]
    rw [n_m2]
    have e1 : (0 ≤ b ∧ b ≤ 511) ↔ i_in b 512 := w_in (m := 511) (by decide)
    have e2 : (0 ≤ w ∧ w ≤ 1) ↔ i_in w 2 := w_in (m := 1) (by decide)
    rw [e1, e2]
    unfold q_value at hk
    have bad : ¬ (i_in a (tM T) ∧ i_in b 512 ∧ i_in w 2) → post (some (.long (q_no (-2)))) S := by
      intro q
      rw [if_neg q] at hk; exact hk
    refine ⟨hC, fun c => ⟨fun d => ⟨fun f => ?_, fun f => bad (fun q => f q.2.2)⟩, fun d => bad (fun q => d q.2.1)⟩, fun c => bad (fun q => c q.1)⟩
    rw [if_pos ⟨c, d, f⟩] at hk
    obtain ⟨ea, ha⟩ := i_inI c (by omega)
    obtain ⟨eb, hb⟩ := i_inI d (by omega)
    have hg := tG_le hC ha (cn b)
    have ht : tA T (cn a) (cn b) (tpr T) ≤ 2 := by unfold tA; split <;> omega
    refine ⟨cn a, cn b, tpr T, hC, ea, eb, (CR_nums hC).1, ha, hb, by omega, fun g => ?_, fun g => ?_⟩
    · rw [n_eqL (M := 2) 2 rfl (by omega) (by omega)] at g
      rw [if_pos g] at hk
      refine ⟨cn a, cn b, hC, ea, eb, ha, fun h0 => ?_, fun h0 => ?_⟩
      · have hle : tpr T ≤ tG T (cn a) (cn b) := by
          unfold tA at g
          split at g
          · rename_i z; exact Nat.le_trans z.2 (tP_le hC ha (cn b)).2.1
          · omega
        unfold q_whole at hk
        rw [if_pos h0] at hk
        rw [(CR_nums hC).1, pk_sub hle, n_l (by omega)]
        exact hk
      · unfold q_whole at hk; rw [if_neg h0] at hk; exact hk
    · rw [n_eqL (M := 2) 2 rfl (by omega) (by omega)] at g
      rw [if_neg g] at hk
      unfold q_whole at hk
      exact ⟨fun h0 => by rw [if_pos h0] at hk; exact hk, fun h0 => by rw [if_neg h0] at hk; exact hk⟩
  · exact h.elim
theorem ok_X7_value (T : ZT) {tl : List ZE} : z_Ok (z_shC tl) yX7_value cX7_value 5 (some .long) ({ frames := 5, cells := 0, slots := 0, locals := 113 } : Room) 0 (wp_X7_value T) := z_Ok_of (pu_X7_value T) z_fX7_ok z_kX7_ok (co_X7_value T) ⟨by decide, by decide⟩ (by decide +kernel)
theorem rec_X7_value (T : ZT) {tl : List ZE} : z_rec (z_shC tl) (wp_X7_value T) 6 := by
  intro as S post h
  unfold wp_X7_value at h
  split at h
  · exact ⟨_, _, _, rfl, rfl⟩
  · exact h.elim
def wp_X7_buys (T : ZT) : ZW := fun as S k => match as with
  | [.ref 0, .int a, .int w] => CR T S ∧ k (some (.long (q_buys T a w))) S
  | _ => False
theorem wr_X7_buys {T : ZT} {a : Int32} {w : Int32} {S : ZS} {k : Option Value → ZS → Prop} : (wp_X7_buys T) [.ref 0, .int a, .int w] S k = (CR T S ∧ k (some (.long (q_buys T a w))) S) := rfl
def cs_X7_buys (T : ZT) : List (Nat × ZC) := [(99, (2, 0, false, (wp_X7_isKing T))), (67, (3, 0, true, wp_X7_within)), (160, (1, 0, true, wp_X7_refused)), (144, (1, 0, false, (wp_X7_left T))), (156, (4, 0, false, (wp_X7_actAt T))), (164, (2, 0, true, wp_X7_whole))]
theorem cr_X7_buys_99 {T : ZT} : (cs_X7_buys T).lookup 99 = some (2, 0, false, (wp_X7_isKing T)) := rfl
theorem cr_X7_buys_67 {T : ZT} : (cs_X7_buys T).lookup 67 = some (3, 0, true, wp_X7_within) := rfl
theorem cr_X7_buys_160 {T : ZT} : (cs_X7_buys T).lookup 160 = some (1, 0, true, wp_X7_refused) := rfl
theorem cr_X7_buys_144 {T : ZT} : (cs_X7_buys T).lookup 144 = some (1, 0, false, (wp_X7_left T)) := rfl
theorem cr_X7_buys_156 {T : ZT} : (cs_X7_buys T).lookup 156 = some (4, 0, false, (wp_X7_actAt T)) := rfl
theorem cr_X7_buys_164 {T : ZT} : (cs_X7_buys T).lookup 164 = some (2, 0, true, wp_X7_whole) := rfl
set_option maxRecDepth 20000 in
theorem co_X7_buys (T : ZT) {tl : List ZE} : z_csok RX7 ({ frames := 5, cells := 0, slots := 0, locals := 113 } : Room) (z_shC tl) (cs_X7_buys T) := z_cs2 (z_csV (ok_X7_isKing T) (rec_X7_isKing T) rfl (z_g 313 (by decide +kernel) rfl) (z_g 315 (by decide +kernel) rfl) (z_g 1 (by decide +kernel) rfl) (z_g 316 (by decide +kernel) rfl) (z_g 44 (by decide +kernel) rfl) rfl rfl (by decide +kernel) ⟨by decide, by decide⟩)
  (z_cs2 (z_csS ok_X7_within (z_g 210 (by decide +kernel) rfl) (z_g 211 (by decide +kernel) rfl) (z_g 44 (by decide +kernel) rfl) (z_g 212 (by decide +kernel) rfl) rfl rfl (by decide +kernel) ⟨by decide, by decide⟩)
  (z_cs2 (z_csS ok_X7_refused (z_g 454 (by decide +kernel) rfl) (z_g 455 (by decide +kernel) rfl) (z_g 44 (by decide +kernel) rfl) (z_g 456 (by decide +kernel) rfl) rfl rfl (by decide +kernel) ⟨by decide, by decide⟩)
  (z_cs2 (z_csV (ok_X7_left T) (rec_X7_left T) rfl (z_g 419 (by decide +kernel) rfl) (z_g 382 (by decide +kernel) rfl) (z_g 383 (by decide +kernel) rfl) (z_g 384 (by decide +kernel) rfl) (z_g 44 (by decide +kernel) rfl) rfl rfl (by decide +kernel) ⟨by decide, by decide⟩)
  (z_cs2 (z_csV (ok_X7_actAt T) (rec_X7_actAt T) rfl (z_g 439 (by decide +kernel) rfl) (z_g 441 (by decide +kernel) rfl) (z_g 5 (by decide +kernel) rfl) (z_g 442 (by decide +kernel) rfl) (z_g 44 (by decide +kernel) rfl) rfl rfl (by decide +kernel) ⟨by decide, by decide⟩)
  (z_cs2 (z_csS ok_X7_whole (z_g 458 (by decide +kernel) rfl) (z_g 459 (by decide +kernel) rfl) (z_g 44 (by decide +kernel) rfl) (z_g 460 (by decide +kernel) rfl) rfl rfl (by decide +kernel) ⟨by decide, by decide⟩)
  (z_cs0))))))
set_option maxHeartbeats 4000000 in
set_option maxRecDepth 20000 in
theorem pu_X7_buys (T : ZT) {tl : List ZE} : z_Pure cX7_buys 3 (z_shC tl) z_fX7 (cs_X7_buys T) z_kcX7 z_klX7 (some .long) 0 (wp_X7_buys T) := by
  intro as S post h
  unfold wp_X7_buys at h
  split at h
  · rename_i a w
    refine ⟨Nat.le_of_ble_eq_true rfl, fun K hK => ?_⟩
    change K 0 0 [some (.ref 0), some (.int a), some (.int w)] [] S
    obtain ⟨hC, hk⟩ := h
    have hn := CR_M hC
    have hp := hC.1.2.2.1.1
    refine hK (z_in []) 100 _ _ _ _ _ (Nat.zero_le _) ?_
    simp (config := { maxSteps := 10000000 }) only [z40, z20, z10, z01, zm0, z0m, ze_s, ze_ok, zt_s, zt_t, zt_f, zl_I, zl_J, zl_R, zl_N, zl_C, zl_K, zl_M, zl_ar0, zl_ar1, zl_ar2, zl_ar3, zl_as0, zl_as1, zl_as2, zl_al, zl_gf, zl_gr, zl_pf, zl_iv, zl_ivn, zlk_n, zlk_c, ztb_n, ztb_c, zin_n, zin_1, zin_c, Int.reduceLT, decide_true, decide_false, Bool.true_and, Bool.and_true, List.length_cons, List.length_nil, Int.reduceSub, Int.reduceEq, Int.natCast_zero, zk_s, z_in_n, z_in_c, z_gt_0, z_gt_s, zst_0, zst_1, zst_s, zsl_0, zsl_1, zsl_s, zc_n, zc_i, zc_l, zc_r, zc_u, zca_n, zca_i, zca_l, zca_r, zca_u, zrt_i, zrt_z, zrt_o, z_cal_0, z_cal_s, true_and, and_true, List.nil_append, List.cons_append, Option.toList_some, Option.toList_none, Nat.reduceAdd, Nat.reduceBEq, Nat.reduceLT, Nat.reduceLeDiff, Nat.reduceSub, Int.reduceAdd, Int.reduceLE, Int.reduceToNat, Int.cast_ofNat_Int, Bool.or_true, Bool.true_or, Bool.or_false, Bool.false_or, Nat.le_refl, Nat.zero_le, or_true, true_or, or_false, false_or, not_true_eq_false, not_false_eq_true, not_false_iff, false_implies, true_implies, eq_self, zo_iconst, zo_bipush, zo_sipush, zo_lconst, zo_ldc, zo_ldc_w, zo_ldc2_w, zo_iload_n, zo_iload, zo_lload_n, zo_lload, zo_aload_n, zo_aload, zo_istore_n, zo_istore, zo_lstore_n, zo_lstore, zo_astore_n, zo_astore, zo_iinc, zo_iadd, zo_isub, zo_imul, zo_iand, zo_ior, zo_ixor, zo_ishl, zo_ishr, zo_iushr, zo_idiv, zo_irem, zo_ladd, zo_lsub, zo_lmul, zo_ldiv, zo_lrem, zo_lcmp, zo_i2l, zo_i2b, zo_i2s, zo_dup, zo_dup2, zo_aconst_null, zo_if_icmp, zo_ifCond, zo_goto, zo_ifnull, zo_ifnonnull, zo_iaload, zo_baload, zo_laload, zo_aaload, zo_iastore, zo_bastore, zo_lastore, zo_arraylength, zo_getfield, zo_putfield, zo_tableswitch, zo_lookupswitch, zo_ireturn, zo_lreturn, zo_areturn, zo_return, zo_invokestatic, zo_invokevirtual, zo_new, zo_invokespecial, zo_newarray, zo_anewarray, zo_aastore, zy_0_1, zy_0_2, zy_0_3, zy_1_1, zy_1_2, zy_2_1, zy_2_2, zy_2_3, zy_3_0, zy_4_3, zy_5_1, zy_5_2, zy_6_5, zy_6_6, zy_6_7, zy_6_8, zy_6_9, zy_6_10, zy_7_2, zy_7_6, zy_7_9, zy_7_10, zy_7_11, zy_7_12, zy_7_14, zy_7_21, zy_7_30, zq_iconst, zq_bipush, zq_sipush, zq_lconst0, zq_lconst1, zq_ldc, zq_ldc_w, zq_ldc2_w, zq_iload0, zq_iload1, zq_iload2, zq_iload3, zq_iload, zq_lload0, zq_lload1, zq_lload2, zq_lload3, zq_lload, zq_aload0, zq_aload1, zq_aload2, zq_aload3, zq_aload, zq_istore0, zq_istore1, zq_istore2, zq_istore3, zq_istore, zq_lstore0, zq_lstore1, zq_lstore2, zq_lstore3, zq_lstore, zq_astore0, zq_astore0N, zq_astore1, zq_astore1N, zq_astore2, zq_astore2N, zq_astore3, zq_astore3N, zq_astore, zq_astoreN, zq_iinc, zq_iadd, zq_isub, zq_imul, zq_iand, zq_ior, zq_ixor, zq_ishl, zq_ishr, zq_iushr, zq_idiv, zq_irem, zq_ladd, zq_lsub, zq_lmul, zq_ldiv, zq_lrem, zq_lcmp, zq_i2l, zq_i2b, zq_i2s, zq_dup_i, zq_dup_r, zq_dup2, zq_null, zq_icmp_eq, zq_if_eq, zq_icmp_ne, zq_if_ne, zq_icmp_lt, zq_if_lt, zq_icmp_ge, zq_if_ge, zq_icmp_gt, zq_if_gt, zq_icmp_le, zq_if_le, zq_goto, zq_ifnull_r, zq_ifnull_n, zq_ifnonnull_r, zq_ifnonnull_n, zq_iaload, zq_baload, zq_laload, zq_aaload, zq_iastore, zq_bastore, zq_lastore, zq_alen, zq_getf, zq_put, zq_tsw, zq_lsw, zq_ireturn, zq_lreturn, zq_areturn, zq_areturnN, zq_return, zq_invokestatic, zq_invokevirtual, zq_new, zq_invokespecial, zq_newarray, zq_anewarray, zq_aastore, zi_m1, zi_0, zi_1, zi_2, zi_3, zi_4, zi_5, zi_6, zi_8, zi_16, zb_m10, zb_m4, zb_m3, zb_m2, zb_6, zb_7, zb_8, zb_9, zb_10, zb_16, zb_20, zb_23, zb_30, zb_32, zb_35, zb_46, zb_48, zb_56, zb_57, zb_59, zb_63, zb_70, zb_98, zb_99, zb_100, zb_111, zb_112, zs_192, zs_255, zs_256, zs_511, zs_512, zs_12345, zf_X7_10_0, zf_X7_19_0, zf_X7_26_0, zf_X7_33_0, zf_X7_39_0, zf_X7_43_0, zf_X7_47_0, zf_X7_50_0, zf_X7_53_0, zf_X7_56_0, zf_X7_59_0, zkc_X7_223, zkl_X7_313, zkl_X7_240, zkl_X7_305, za_C_2, za_C_3, za_C_4, za_C_5, za_C_6, za_C_8, za_C_9, za_C_10, za_C_12, za_C_14, za_C_15, za_C_16, za_C_17, za_C_22, za_C_23, za_C_24, za_C_25, dX7_buys_0, dX7_buys_1, dX7_buys_2, dX7_buys_5, dX7_buys_8, dX7_buys_9, dX7_buys_10, dX7_buys_11, dX7_buys_14, dX7_buys_17, dX7_buys_19, dX7_buys_22, dX7_buys_23, dX7_buys_24, dX7_buys_25, dX7_buys_26, dX7_buys_29, dX7_buys_30, dX7_buys_33, dX7_buys_36, dX7_buys_37, dX7_buys_40, dX7_buys_41, dX7_buys_44, dX7_buys_45, dX7_buys_46, dX7_buys_49, cr_X7_buys_99, cr_X7_buys_67, cr_X7_buys_160, cr_X7_buys_144, cr_X7_buys_156, cr_X7_buys_164, wr_X7_isKing, wr_X7_within, wr_X7_refused, wr_X7_left, wr_X7_actAt, wr_X7_whole]
    rw [n_m2]
    have e2 : (0 ≤ w ∧ w ≤ 1) ↔ i_in w 2 := w_in (m := 1) (by decide)
    rw [e2]
    unfold q_buys at hk
    have bad : ¬ (i_in a (tM T) ∧ i_in w 2) → post (some (.long (q_no (-2)))) S := by
      intro q
      rw [if_neg q] at hk; exact hk
    refine ⟨hC, fun c => ⟨fun f => ?_, fun f => bad (fun q => f q.2)⟩, fun c => bad (fun q => c q.1)⟩
    rw [if_pos ⟨c, f⟩] at hk
    obtain ⟨ea, ha⟩ := i_inI c (by omega)
    have ht : tA T (cn a) (tL T) (tpr T) ≤ 2 := by unfold tA; split <;> omega
    refine ⟨hC, cn a, tL T, tpr T, hC, ea, rfl, (CR_nums hC).1, ha, tL_lt hC, by omega, fun g => ?_, fun g => ?_⟩
    · rw [n_eqL (M := 2) 2 rfl (by omega) (by omega)] at g
      rw [if_pos g] at hk
      unfold q_whole at hk
      exact ⟨fun h0 => by rw [if_pos h0] at hk; exact hk, fun h0 => by rw [if_neg h0] at hk; exact hk⟩
    · rw [n_eqL (M := 2) 2 rfl (by omega) (by omega)] at g
      rw [if_neg g] at hk
      unfold q_whole at hk
      exact ⟨fun h0 => by rw [if_pos h0] at hk; exact hk, fun h0 => by rw [if_neg h0] at hk; exact hk⟩
  · exact h.elim
theorem ok_X7_buys (T : ZT) {tl : List ZE} : z_Ok (z_shC tl) yX7_buys cX7_buys 3 (some .long) ({ frames := 5, cells := 0, slots := 0, locals := 113 } : Room) 0 (wp_X7_buys T) := z_Ok_of (pu_X7_buys T) z_fX7_ok z_kX7_ok (co_X7_buys T) ⟨by decide, by decide⟩ (by decide +kernel)
theorem rec_X7_buys (T : ZT) {tl : List ZE} : z_rec (z_shC tl) (wp_X7_buys T) 6 := by
  intro as S post h
  unfold wp_X7_buys at h
  split at h
  · exact ⟨_, _, _, rfl, rfl⟩
  · exact h.elim
def wp_X7_take (T : ZT) : ZW := fun as S k => match as with
  | [.ref 0, .int a, .int p, .int w] => CR T S ∧ k (some (.long (q_take T a p w))) S
  | _ => False
theorem wr_X7_take {T : ZT} {a : Int32} {p : Int32} {w : Int32} {S : ZS} {k : Option Value → ZS → Prop} : (wp_X7_take T) [.ref 0, .int a, .int p, .int w] S k = (CR T S ∧ k (some (.long (q_take T a p w))) S) := rfl
def cs_X7_take (T : ZT) : List (Nat × ZC) := [(99, (2, 0, false, (wp_X7_isKing T))), (67, (3, 0, true, wp_X7_within)), (160, (1, 0, true, wp_X7_refused)), (144, (1, 0, false, (wp_X7_left T))), (156, (4, 0, false, (wp_X7_actAt T))), (164, (2, 0, true, wp_X7_whole))]
theorem cr_X7_take_99 {T : ZT} : (cs_X7_take T).lookup 99 = some (2, 0, false, (wp_X7_isKing T)) := rfl
theorem cr_X7_take_67 {T : ZT} : (cs_X7_take T).lookup 67 = some (3, 0, true, wp_X7_within) := rfl
theorem cr_X7_take_160 {T : ZT} : (cs_X7_take T).lookup 160 = some (1, 0, true, wp_X7_refused) := rfl
theorem cr_X7_take_144 {T : ZT} : (cs_X7_take T).lookup 144 = some (1, 0, false, (wp_X7_left T)) := rfl
theorem cr_X7_take_156 {T : ZT} : (cs_X7_take T).lookup 156 = some (4, 0, false, (wp_X7_actAt T)) := rfl
theorem cr_X7_take_164 {T : ZT} : (cs_X7_take T).lookup 164 = some (2, 0, true, wp_X7_whole) := rfl
set_option maxRecDepth 20000 in
theorem co_X7_take (T : ZT) {tl : List ZE} : z_csok RX7 ({ frames := 5, cells := 0, slots := 0, locals := 113 } : Room) (z_shC tl) (cs_X7_take T) := z_cs2 (z_csV (ok_X7_isKing T) (rec_X7_isKing T) rfl (z_g 313 (by decide +kernel) rfl) (z_g 315 (by decide +kernel) rfl) (z_g 1 (by decide +kernel) rfl) (z_g 316 (by decide +kernel) rfl) (z_g 44 (by decide +kernel) rfl) rfl rfl (by decide +kernel) ⟨by decide, by decide⟩)
  (z_cs2 (z_csS ok_X7_within (z_g 210 (by decide +kernel) rfl) (z_g 211 (by decide +kernel) rfl) (z_g 44 (by decide +kernel) rfl) (z_g 212 (by decide +kernel) rfl) rfl rfl (by decide +kernel) ⟨by decide, by decide⟩)
  (z_cs2 (z_csS ok_X7_refused (z_g 454 (by decide +kernel) rfl) (z_g 455 (by decide +kernel) rfl) (z_g 44 (by decide +kernel) rfl) (z_g 456 (by decide +kernel) rfl) rfl rfl (by decide +kernel) ⟨by decide, by decide⟩)
  (z_cs2 (z_csV (ok_X7_left T) (rec_X7_left T) rfl (z_g 419 (by decide +kernel) rfl) (z_g 382 (by decide +kernel) rfl) (z_g 383 (by decide +kernel) rfl) (z_g 384 (by decide +kernel) rfl) (z_g 44 (by decide +kernel) rfl) rfl rfl (by decide +kernel) ⟨by decide, by decide⟩)
  (z_cs2 (z_csV (ok_X7_actAt T) (rec_X7_actAt T) rfl (z_g 439 (by decide +kernel) rfl) (z_g 441 (by decide +kernel) rfl) (z_g 5 (by decide +kernel) rfl) (z_g 442 (by decide +kernel) rfl) (z_g 44 (by decide +kernel) rfl) rfl rfl (by decide +kernel) ⟨by decide, by decide⟩)
  (z_cs2 (z_csS ok_X7_whole (z_g 458 (by decide +kernel) rfl) (z_g 459 (by decide +kernel) rfl) (z_g 44 (by decide +kernel) rfl) (z_g 460 (by decide +kernel) rfl) rfl rfl (by decide +kernel) ⟨by decide, by decide⟩)
  (z_cs0))))))
set_option maxHeartbeats 4000000 in
set_option maxRecDepth 20000 in
theorem pu_X7_take (T : ZT) {tl : List ZE} : z_Pure cX7_take 4 (z_shC tl) z_fX7 (cs_X7_take T) z_kcX7 z_klX7 (some .long) 0 (wp_X7_take T) := by
  intro as S post h
  unfold wp_X7_take at h
  split at h
  · rename_i a p w
    refine ⟨Nat.le_of_ble_eq_true rfl, fun K hK => ?_⟩
    change K 0 0 [some (.ref 0), some (.int a), some (.int p), some (.int w)] [] S
    obtain ⟨hC, hk⟩ := h
    have hn := CR_M hC
    refine hK (z_in []) 100 _ _ _ _ _ (Nat.zero_le _) ?_
    simp (config := { maxSteps := 10000000 }) only [z40, z20, z10, z01, zm0, z0m, ze_s, ze_ok, zt_s, zt_t, zt_f, zl_I, zl_J, zl_R, zl_N, zl_C, zl_K, zl_M, zl_ar0, zl_ar1, zl_ar2, zl_ar3, zl_as0, zl_as1, zl_as2, zl_al, zl_gf, zl_gr, zl_pf, zl_iv, zl_ivn, zlk_n, zlk_c, ztb_n, ztb_c, zin_n, zin_1, zin_c, Int.reduceLT, decide_true, decide_false, Bool.true_and, Bool.and_true, List.length_cons, List.length_nil, Int.reduceSub, Int.reduceEq, Int.natCast_zero, zk_s, z_in_n, z_in_c, z_gt_0, z_gt_s, zst_0, zst_1, zst_s, zsl_0, zsl_1, zsl_s, zc_n, zc_i, zc_l, zc_r, zc_u, zca_n, zca_i, zca_l, zca_r, zca_u, zrt_i, zrt_z, zrt_o, z_cal_0, z_cal_s, true_and, and_true, List.nil_append, List.cons_append, Option.toList_some, Option.toList_none, Nat.reduceAdd, Nat.reduceBEq, Nat.reduceLT, Nat.reduceLeDiff, Nat.reduceSub, Int.reduceAdd, Int.reduceLE, Int.reduceToNat, Int.cast_ofNat_Int, Bool.or_true, Bool.true_or, Bool.or_false, Bool.false_or, Nat.le_refl, Nat.zero_le, or_true, true_or, or_false, false_or, not_true_eq_false, not_false_eq_true, not_false_iff, false_implies, true_implies, eq_self, zo_iconst, zo_bipush, zo_sipush, zo_lconst, zo_ldc, zo_ldc_w, zo_ldc2_w, zo_iload_n, zo_iload, zo_lload_n, zo_lload, zo_aload_n, zo_aload, zo_istore_n, zo_istore, zo_lstore_n, zo_lstore, zo_astore_n, zo_astore, zo_iinc, zo_iadd, zo_isub, zo_imul, zo_iand, zo_ior, zo_ixor, zo_ishl, zo_ishr, zo_iushr, zo_idiv, zo_irem, zo_ladd, zo_lsub, zo_lmul, zo_ldiv, zo_lrem, zo_lcmp, zo_i2l, zo_i2b, zo_i2s, zo_dup, zo_dup2, zo_aconst_null, zo_if_icmp, zo_ifCond, zo_goto, zo_ifnull, zo_ifnonnull, zo_iaload, zo_baload, zo_laload, zo_aaload, zo_iastore, zo_bastore, zo_lastore, zo_arraylength, zo_getfield, zo_putfield, zo_tableswitch, zo_lookupswitch, zo_ireturn, zo_lreturn, zo_areturn, zo_return, zo_invokestatic, zo_invokevirtual, zo_new, zo_invokespecial, zo_newarray, zo_anewarray, zo_aastore, zy_0_1, zy_0_2, zy_0_3, zy_1_1, zy_1_2, zy_2_1, zy_2_2, zy_2_3, zy_3_0, zy_4_3, zy_5_1, zy_5_2, zy_6_5, zy_6_6, zy_6_7, zy_6_8, zy_6_9, zy_6_10, zy_7_2, zy_7_6, zy_7_9, zy_7_10, zy_7_11, zy_7_12, zy_7_14, zy_7_21, zy_7_30, zq_iconst, zq_bipush, zq_sipush, zq_lconst0, zq_lconst1, zq_ldc, zq_ldc_w, zq_ldc2_w, zq_iload0, zq_iload1, zq_iload2, zq_iload3, zq_iload, zq_lload0, zq_lload1, zq_lload2, zq_lload3, zq_lload, zq_aload0, zq_aload1, zq_aload2, zq_aload3, zq_aload, zq_istore0, zq_istore1, zq_istore2, zq_istore3, zq_istore, zq_lstore0, zq_lstore1, zq_lstore2, zq_lstore3, zq_lstore, zq_astore0, zq_astore0N, zq_astore1, zq_astore1N, zq_astore2, zq_astore2N, zq_astore3, zq_astore3N, zq_astore, zq_astoreN, zq_iinc, zq_iadd, zq_isub, zq_imul, zq_iand, zq_ior, zq_ixor, zq_ishl, zq_ishr, zq_iushr, zq_idiv, zq_irem, zq_ladd, zq_lsub, zq_lmul, zq_ldiv, zq_lrem, zq_lcmp, zq_i2l, zq_i2b, zq_i2s, zq_dup_i, zq_dup_r, zq_dup2, zq_null, zq_icmp_eq, zq_if_eq, zq_icmp_ne, zq_if_ne, zq_icmp_lt, zq_if_lt, zq_icmp_ge, zq_if_ge, zq_icmp_gt, zq_if_gt, zq_icmp_le, zq_if_le, zq_goto, zq_ifnull_r, zq_ifnull_n, zq_ifnonnull_r, zq_ifnonnull_n, zq_iaload, zq_baload, zq_laload, zq_aaload, zq_iastore, zq_bastore, zq_lastore, zq_alen, zq_getf, zq_put, zq_tsw, zq_lsw, zq_ireturn, zq_lreturn, zq_areturn, zq_areturnN, zq_return, zq_invokestatic, zq_invokevirtual, zq_new, zq_invokespecial, zq_newarray, zq_anewarray, zq_aastore, zi_m1, zi_0, zi_1, zi_2, zi_3, zi_4, zi_5, zi_6, zi_8, zi_16, zb_m10, zb_m4, zb_m3, zb_m2, zb_6, zb_7, zb_8, zb_9, zb_10, zb_16, zb_20, zb_23, zb_30, zb_32, zb_35, zb_46, zb_48, zb_56, zb_57, zb_59, zb_63, zb_70, zb_98, zb_99, zb_100, zb_111, zb_112, zs_192, zs_255, zs_256, zs_511, zs_512, zs_12345, zf_X7_10_0, zf_X7_19_0, zf_X7_26_0, zf_X7_33_0, zf_X7_39_0, zf_X7_43_0, zf_X7_47_0, zf_X7_50_0, zf_X7_53_0, zf_X7_56_0, zf_X7_59_0, zkc_X7_223, zkl_X7_313, zkl_X7_240, zkl_X7_305, za_C_2, za_C_3, za_C_4, za_C_5, za_C_6, za_C_8, za_C_9, za_C_10, za_C_12, za_C_14, za_C_15, za_C_16, za_C_17, za_C_22, za_C_23, za_C_24, za_C_25, dX7_take_0, dX7_take_1, dX7_take_2, dX7_take_5, dX7_take_8, dX7_take_9, dX7_take_10, dX7_take_12, dX7_take_15, dX7_take_18, dX7_take_19, dX7_take_20, dX7_take_21, dX7_take_24, dX7_take_27, dX7_take_29, dX7_take_32, dX7_take_33, dX7_take_34, dX7_take_35, dX7_take_36, dX7_take_39, dX7_take_40, dX7_take_43, dX7_take_44, dX7_take_47, dX7_take_48, dX7_take_49, dX7_take_52, dX7_take_53, dX7_take_54, dX7_take_57, cr_X7_take_99, cr_X7_take_67, cr_X7_take_160, cr_X7_take_144, cr_X7_take_156, cr_X7_take_164, wr_X7_isKing, wr_X7_within, wr_X7_refused, wr_X7_left, wr_X7_actAt, wr_X7_whole]
    rw [n_m2]
    have e1 : (0 ≤ p ∧ p ≤ 99) ↔ i_in p 100 := w_in (m := 99) (by decide)
    have e2 : (0 ≤ w ∧ w ≤ 1) ↔ i_in w 2 := w_in (m := 1) (by decide)
    rw [e1, e2]
    unfold q_take at hk
    have bad : ¬ (i_in a (tM T) ∧ i_in p 100 ∧ i_in w 2) → post (some (.long (q_no (-2)))) S := by
      intro q
      rw [if_neg q] at hk; exact hk
    refine ⟨hC, fun c => ⟨fun d => ⟨fun f => ?_, fun f => bad (fun q => f q.2.2)⟩, fun d => bad (fun q => d q.2.1)⟩, fun c => bad (fun q => c q.1)⟩
    rw [if_pos ⟨c, d, f⟩] at hk
    obtain ⟨ea, ha⟩ := i_inI c (by omega)
    obtain ⟨eb, hb⟩ := i_inI d (by omega)
    have ht : tA T (cn a) (tL T) (cn p) ≤ 2 := by unfold tA; split <;> omega
    refine ⟨hC, cn a, tL T, cn p, hC, ea, rfl, eb, ha, tL_lt hC, by omega, fun g => ?_, fun g => ?_⟩
    · rw [n_eqL (M := 2) 2 rfl (by omega) (by omega)] at g
      rw [if_pos g] at hk
      unfold q_whole at hk
      refine ⟨fun h0 => ?_, fun h0 => by rw [if_neg h0] at hk; exact hk⟩
      rw [if_pos h0, ← n_l (show cn p < 2147483648 by omega), ← eb] at hk
      exact hk
    · rw [n_eqL (M := 2) 2 rfl (by omega) (by omega)] at g
      rw [if_neg g] at hk
      unfold q_whole at hk
      exact ⟨fun h0 => by rw [if_pos h0] at hk; exact hk, fun h0 => by rw [if_neg h0] at hk; exact hk⟩
  · exact h.elim
theorem ok_X7_take (T : ZT) {tl : List ZE} : z_Ok (z_shC tl) yX7_take cX7_take 4 (some .long) ({ frames := 5, cells := 0, slots := 0, locals := 113 } : Room) 0 (wp_X7_take T) := z_Ok_of (pu_X7_take T) z_fX7_ok z_kX7_ok (co_X7_take T) ⟨by decide, by decide⟩ (by decide +kernel)
theorem rec_X7_take (T : ZT) {tl : List ZE} : z_rec (z_shC tl) (wp_X7_take T) 6 := by
  intro as S post h
  unfold wp_X7_take at h
  split at h
  · exact ⟨_, _, _, rfl, rfl⟩
  · exact h.elim
def wp_X7_price (T : ZT) : ZW := fun as S k => match as with
  | [.ref 0, .int a] => CR T S ∧ k (some (.int (q_price T a))) S
  | _ => False
theorem wr_X7_price {T : ZT} {a : Int32} {S : ZS} {k : Option Value → ZS → Prop} : (wp_X7_price T) [.ref 0, .int a] S k = (CR T S ∧ k (some (.int (q_price T a))) S) := rfl
def cs_X7_price (T : ZT) : List (Nat × ZC) := [(99, (2, 0, false, (wp_X7_isKing T))), (144, (1, 0, false, (wp_X7_left T))), (168, (3, 0, false, (wp_X7_mostPaid T)))]
theorem cr_X7_price_99 {T : ZT} : (cs_X7_price T).lookup 99 = some (2, 0, false, (wp_X7_isKing T)) := rfl
theorem cr_X7_price_144 {T : ZT} : (cs_X7_price T).lookup 144 = some (1, 0, false, (wp_X7_left T)) := rfl
theorem cr_X7_price_168 {T : ZT} : (cs_X7_price T).lookup 168 = some (3, 0, false, (wp_X7_mostPaid T)) := rfl
set_option maxRecDepth 20000 in
theorem co_X7_price (T : ZT) {tl : List ZE} : z_csok RX7 ({ frames := 4, cells := 0, slots := 0, locals := 89 } : Room) (z_shC tl) (cs_X7_price T) := z_cs2 (z_csV (ok_X7_isKing T) (rec_X7_isKing T) rfl (z_g 313 (by decide +kernel) rfl) (z_g 315 (by decide +kernel) rfl) (z_g 1 (by decide +kernel) rfl) (z_g 316 (by decide +kernel) rfl) (z_g 44 (by decide +kernel) rfl) rfl rfl (by decide +kernel) ⟨by decide, by decide⟩)
  (z_cs2 (z_csV (ok_X7_left T) (rec_X7_left T) rfl (z_g 419 (by decide +kernel) rfl) (z_g 382 (by decide +kernel) rfl) (z_g 383 (by decide +kernel) rfl) (z_g 384 (by decide +kernel) rfl) (z_g 44 (by decide +kernel) rfl) rfl rfl (by decide +kernel) ⟨by decide, by decide⟩)
  (z_cs2 (z_csV (ok_X7_mostPaid T) (rec_X7_mostPaid T) rfl (z_g 443 (by decide +kernel) rfl) (z_g 445 (by decide +kernel) rfl) (z_g 6 (by decide +kernel) rfl) (z_g 446 (by decide +kernel) rfl) (z_g 44 (by decide +kernel) rfl) rfl rfl (by decide +kernel) ⟨by decide, by decide⟩)
  (z_cs0)))
set_option maxHeartbeats 4000000 in
set_option maxRecDepth 20000 in
theorem pu_X7_price (T : ZT) {tl : List ZE} : z_Pure cX7_price 2 (z_shC tl) z_fX7 (cs_X7_price T) z_kcX7 z_klX7 (some .int) 0 (wp_X7_price T) := by
  intro as S post h
  unfold wp_X7_price at h
  split at h
  · rename_i a
    refine ⟨Nat.le_of_ble_eq_true rfl, fun K hK => ?_⟩
    change K 0 0 [some (.ref 0), some (.int a)] [] S
    obtain ⟨hC, hk⟩ := h
    have hn := CR_M hC
    refine hK (z_in []) 100 _ _ _ _ _ (Nat.zero_le _) ?_
    simp (config := { maxSteps := 10000000 }) only [z40, z20, z10, z01, zm0, z0m, ze_s, ze_ok, zt_s, zt_t, zt_f, zl_I, zl_J, zl_R, zl_N, zl_C, zl_K, zl_M, zl_ar0, zl_ar1, zl_ar2, zl_ar3, zl_as0, zl_as1, zl_as2, zl_al, zl_gf, zl_gr, zl_pf, zl_iv, zl_ivn, zlk_n, zlk_c, ztb_n, ztb_c, zin_n, zin_1, zin_c, Int.reduceLT, decide_true, decide_false, Bool.true_and, Bool.and_true, List.length_cons, List.length_nil, Int.reduceSub, Int.reduceEq, Int.natCast_zero, zk_s, z_in_n, z_in_c, z_gt_0, z_gt_s, zst_0, zst_1, zst_s, zsl_0, zsl_1, zsl_s, zc_n, zc_i, zc_l, zc_r, zc_u, zca_n, zca_i, zca_l, zca_r, zca_u, zrt_i, zrt_z, zrt_o, z_cal_0, z_cal_s, true_and, and_true, List.nil_append, List.cons_append, Option.toList_some, Option.toList_none, Nat.reduceAdd, Nat.reduceBEq, Nat.reduceLT, Nat.reduceLeDiff, Nat.reduceSub, Int.reduceAdd, Int.reduceLE, Int.reduceToNat, Int.cast_ofNat_Int, Bool.or_true, Bool.true_or, Bool.or_false, Bool.false_or, Nat.le_refl, Nat.zero_le, or_true, true_or, or_false, false_or, not_true_eq_false, not_false_eq_true, not_false_iff, false_implies, true_implies, eq_self, zo_iconst, zo_bipush, zo_sipush, zo_lconst, zo_ldc, zo_ldc_w, zo_ldc2_w, zo_iload_n, zo_iload, zo_lload_n, zo_lload, zo_aload_n, zo_aload, zo_istore_n, zo_istore, zo_lstore_n, zo_lstore, zo_astore_n, zo_astore, zo_iinc, zo_iadd, zo_isub, zo_imul, zo_iand, zo_ior, zo_ixor, zo_ishl, zo_ishr, zo_iushr, zo_idiv, zo_irem, zo_ladd, zo_lsub, zo_lmul, zo_ldiv, zo_lrem, zo_lcmp, zo_i2l, zo_i2b, zo_i2s, zo_dup, zo_dup2, zo_aconst_null, zo_if_icmp, zo_ifCond, zo_goto, zo_ifnull, zo_ifnonnull, zo_iaload, zo_baload, zo_laload, zo_aaload, zo_iastore, zo_bastore, zo_lastore, zo_arraylength, zo_getfield, zo_putfield, zo_tableswitch, zo_lookupswitch, zo_ireturn, zo_lreturn, zo_areturn, zo_return, zo_invokestatic, zo_invokevirtual, zo_new, zo_invokespecial, zo_newarray, zo_anewarray, zo_aastore, zy_0_1, zy_0_2, zy_0_3, zy_1_1, zy_1_2, zy_2_1, zy_2_2, zy_2_3, zy_3_0, zy_4_3, zy_5_1, zy_5_2, zy_6_5, zy_6_6, zy_6_7, zy_6_8, zy_6_9, zy_6_10, zy_7_2, zy_7_6, zy_7_9, zy_7_10, zy_7_11, zy_7_12, zy_7_14, zy_7_21, zy_7_30, zq_iconst, zq_bipush, zq_sipush, zq_lconst0, zq_lconst1, zq_ldc, zq_ldc_w, zq_ldc2_w, zq_iload0, zq_iload1, zq_iload2, zq_iload3, zq_iload, zq_lload0, zq_lload1, zq_lload2, zq_lload3, zq_lload, zq_aload0, zq_aload1, zq_aload2, zq_aload3, zq_aload, zq_istore0, zq_istore1, zq_istore2, zq_istore3, zq_istore, zq_lstore0, zq_lstore1, zq_lstore2, zq_lstore3, zq_lstore, zq_astore0, zq_astore0N, zq_astore1, zq_astore1N, zq_astore2, zq_astore2N, zq_astore3, zq_astore3N, zq_astore, zq_astoreN, zq_iinc, zq_iadd, zq_isub, zq_imul, zq_iand, zq_ior, zq_ixor, zq_ishl, zq_ishr, zq_iushr, zq_idiv, zq_irem, zq_ladd, zq_lsub, zq_lmul, zq_ldiv, zq_lrem, zq_lcmp, zq_i2l, zq_i2b, zq_i2s, zq_dup_i, zq_dup_r, zq_dup2, zq_null, zq_icmp_eq, zq_if_eq, zq_icmp_ne, zq_if_ne, zq_icmp_lt, zq_if_lt, zq_icmp_ge, zq_if_ge, zq_icmp_gt, zq_if_gt, zq_icmp_le, zq_if_le, zq_goto, zq_ifnull_r, zq_ifnull_n, zq_ifnonnull_r, zq_ifnonnull_n, zq_iaload, zq_baload, zq_laload, zq_aaload, zq_iastore, zq_bastore, zq_lastore, zq_alen, zq_getf, zq_put, zq_tsw, zq_lsw, zq_ireturn, zq_lreturn, zq_areturn, zq_areturnN, zq_return, zq_invokestatic, zq_invokevirtual, zq_new, zq_invokespecial, zq_newarray, zq_anewarray, zq_aastore, zi_m1, zi_0, zi_1, zi_2, zi_3, zi_4, zi_5, zi_6, zi_8, zi_16, zb_m10, zb_m4, zb_m3, zb_m2, zb_6, zb_7, zb_8, zb_9, zb_10, zb_16, zb_20, zb_23, zb_30, zb_32, zb_35, zb_46, zb_48, zb_56, zb_57, zb_59, zb_63, zb_70, zb_98, zb_99, zb_100, zb_111, zb_112, zs_192, zs_255, zs_256, zs_511, zs_512, zs_12345, zf_X7_10_0, zf_X7_19_0, zf_X7_26_0, zf_X7_33_0, zf_X7_39_0, zf_X7_43_0, zf_X7_47_0, zf_X7_50_0, zf_X7_53_0, zf_X7_56_0, zf_X7_59_0, zkc_X7_223, zkl_X7_313, zkl_X7_240, zkl_X7_305, za_C_2, za_C_3, za_C_4, za_C_5, za_C_6, za_C_8, za_C_9, za_C_10, za_C_12, za_C_14, za_C_15, za_C_16, za_C_17, za_C_22, za_C_23, za_C_24, za_C_25, dX7_price_0, dX7_price_1, dX7_price_2, dX7_price_5, dX7_price_8, dX7_price_9, dX7_price_10, dX7_price_11, dX7_price_14, dX7_price_17, dX7_price_20, dX7_price_22, cr_X7_price_99, cr_X7_price_144, cr_X7_price_168, wr_X7_isKing, wr_X7_left, wr_X7_mostPaid]
    unfold q_price at hk
    refine ⟨hC, fun c => ⟨hC, ?_⟩, fun c => by rw [if_neg c] at hk; exact hk⟩
    obtain ⟨ea, ha⟩ := i_inI c (by omega)
    rw [if_pos c] at hk
    exact ⟨cn a, tL T, hC, ea, rfl, ha, hk⟩
  · exact h.elim
theorem ok_X7_price (T : ZT) {tl : List ZE} : z_Ok (z_shC tl) yX7_price cX7_price 2 (some .int) ({ frames := 4, cells := 0, slots := 0, locals := 89 } : Room) 0 (wp_X7_price T) := z_Ok_of (pu_X7_price T) z_fX7_ok z_kX7_ok (co_X7_price T) ⟨by decide, by decide⟩ (by decide +kernel)
theorem rec_X7_price (T : ZT) {tl : List ZE} : z_rec (z_shC tl) (wp_X7_price T) 6 := by
  intro as S post h
  unfold wp_X7_price at h
  split at h
  · exact ⟨_, _, _, rfl, rfl⟩
  · exact h.elim
def wp_X7_burns (T : ZT) : ZW := fun as S k => match as with
  | [.ref 0, .int a] => CR T S ∧ k (some (.int (q_burns T a))) S
  | _ => False
theorem wr_X7_burns {T : ZT} {a : Int32} {S : ZS} {k : Option Value → ZS → Prop} : (wp_X7_burns T) [.ref 0, .int a] S k = (CR T S ∧ k (some (.int (q_burns T a))) S) := rfl
def cs_X7_burns (T : ZT) : List (Nat × ZC) := [(99, (2, 0, false, (wp_X7_isKing T)))]
theorem cr_X7_burns_99 {T : ZT} : (cs_X7_burns T).lookup 99 = some (2, 0, false, (wp_X7_isKing T)) := rfl
set_option maxRecDepth 20000 in
theorem co_X7_burns (T : ZT) {tl : List ZE} : z_csok RX7 ({ frames := 2, cells := 0, slots := 0, locals := 43 } : Room) (z_shC tl) (cs_X7_burns T) := z_cs2 (z_csV (ok_X7_isKing T) (rec_X7_isKing T) rfl (z_g 313 (by decide +kernel) rfl) (z_g 315 (by decide +kernel) rfl) (z_g 1 (by decide +kernel) rfl) (z_g 316 (by decide +kernel) rfl) (z_g 44 (by decide +kernel) rfl) rfl rfl (by decide +kernel) ⟨by decide, by decide⟩)
  (z_cs0)
set_option maxHeartbeats 4000000 in
set_option maxRecDepth 20000 in
theorem pu_X7_burns (T : ZT) {tl : List ZE} : z_Pure cX7_burns 2 (z_shC tl) z_fX7 (cs_X7_burns T) z_kcX7 z_klX7 (some .int) 0 (wp_X7_burns T) := by
  intro as S post h
  unfold wp_X7_burns at h
  split at h
  · rename_i a
    refine ⟨Nat.le_of_ble_eq_true rfl, fun K hK => ?_⟩
    change K 0 0 [some (.ref 0), some (.int a)] [] S
    obtain ⟨hC, hk⟩ := h
    refine hK (z_in []) 100 _ _ _ _ _ (Nat.zero_le _) ?_
    simp (config := { maxSteps := 10000000 }) only [z40, z20, z10, z01, zm0, z0m, ze_s, ze_ok, zt_s, zt_t, zt_f, zl_I, zl_J, zl_R, zl_N, zl_C, zl_K, zl_M, zl_ar0, zl_ar1, zl_ar2, zl_ar3, zl_as0, zl_as1, zl_as2, zl_al, zl_gf, zl_gr, zl_pf, zl_iv, zl_ivn, zlk_n, zlk_c, ztb_n, ztb_c, zin_n, zin_1, zin_c, Int.reduceLT, decide_true, decide_false, Bool.true_and, Bool.and_true, List.length_cons, List.length_nil, Int.reduceSub, Int.reduceEq, Int.natCast_zero, zk_s, z_in_n, z_in_c, z_gt_0, z_gt_s, zst_0, zst_1, zst_s, zsl_0, zsl_1, zsl_s, zc_n, zc_i, zc_l, zc_r, zc_u, zca_n, zca_i, zca_l, zca_r, zca_u, zrt_i, zrt_z, zrt_o, z_cal_0, z_cal_s, true_and, and_true, List.nil_append, List.cons_append, Option.toList_some, Option.toList_none, Nat.reduceAdd, Nat.reduceBEq, Nat.reduceLT, Nat.reduceLeDiff, Nat.reduceSub, Int.reduceAdd, Int.reduceLE, Int.reduceToNat, Int.cast_ofNat_Int, Bool.or_true, Bool.true_or, Bool.or_false, Bool.false_or, Nat.le_refl, Nat.zero_le, or_true, true_or, or_false, false_or, not_true_eq_false, not_false_eq_true, not_false_iff, false_implies, true_implies, eq_self, zo_iconst, zo_bipush, zo_sipush, zo_lconst, zo_ldc, zo_ldc_w, zo_ldc2_w, zo_iload_n, zo_iload, zo_lload_n, zo_lload, zo_aload_n, zo_aload, zo_istore_n, zo_istore, zo_lstore_n, zo_lstore, zo_astore_n, zo_astore, zo_iinc, zo_iadd, zo_isub, zo_imul, zo_iand, zo_ior, zo_ixor, zo_ishl, zo_ishr, zo_iushr, zo_idiv, zo_irem, zo_ladd, zo_lsub, zo_lmul, zo_ldiv, zo_lrem, zo_lcmp, zo_i2l, zo_i2b, zo_i2s, zo_dup, zo_dup2, zo_aconst_null, zo_if_icmp, zo_ifCond, zo_goto, zo_ifnull, zo_ifnonnull, zo_iaload, zo_baload, zo_laload, zo_aaload, zo_iastore, zo_bastore, zo_lastore, zo_arraylength, zo_getfield, zo_putfield, zo_tableswitch, zo_lookupswitch, zo_ireturn, zo_lreturn, zo_areturn, zo_return, zo_invokestatic, zo_invokevirtual, zo_new, zo_invokespecial, zo_newarray, zo_anewarray, zo_aastore, zy_0_1, zy_0_2, zy_0_3, zy_1_1, zy_1_2, zy_2_1, zy_2_2, zy_2_3, zy_3_0, zy_4_3, zy_5_1, zy_5_2, zy_6_5, zy_6_6, zy_6_7, zy_6_8, zy_6_9, zy_6_10, zy_7_2, zy_7_6, zy_7_9, zy_7_10, zy_7_11, zy_7_12, zy_7_14, zy_7_21, zy_7_30, zq_iconst, zq_bipush, zq_sipush, zq_lconst0, zq_lconst1, zq_ldc, zq_ldc_w, zq_ldc2_w, zq_iload0, zq_iload1, zq_iload2, zq_iload3, zq_iload, zq_lload0, zq_lload1, zq_lload2, zq_lload3, zq_lload, zq_aload0, zq_aload1, zq_aload2, zq_aload3, zq_aload, zq_istore0, zq_istore1, zq_istore2, zq_istore3, zq_istore, zq_lstore0, zq_lstore1, zq_lstore2, zq_lstore3, zq_lstore, zq_astore0, zq_astore0N, zq_astore1, zq_astore1N, zq_astore2, zq_astore2N, zq_astore3, zq_astore3N, zq_astore, zq_astoreN, zq_iinc, zq_iadd, zq_isub, zq_imul, zq_iand, zq_ior, zq_ixor, zq_ishl, zq_ishr, zq_iushr, zq_idiv, zq_irem, zq_ladd, zq_lsub, zq_lmul, zq_ldiv, zq_lrem, zq_lcmp, zq_i2l, zq_i2b, zq_i2s, zq_dup_i, zq_dup_r, zq_dup2, zq_null, zq_icmp_eq, zq_if_eq, zq_icmp_ne, zq_if_ne, zq_icmp_lt, zq_if_lt, zq_icmp_ge, zq_if_ge, zq_icmp_gt, zq_if_gt, zq_icmp_le, zq_if_le, zq_goto, zq_ifnull_r, zq_ifnull_n, zq_ifnonnull_r, zq_ifnonnull_n, zq_iaload, zq_baload, zq_laload, zq_aaload, zq_iastore, zq_bastore, zq_lastore, zq_alen, zq_getf, zq_put, zq_tsw, zq_lsw, zq_ireturn, zq_lreturn, zq_areturn, zq_areturnN, zq_return, zq_invokestatic, zq_invokevirtual, zq_new, zq_invokespecial, zq_newarray, zq_anewarray, zq_aastore, zi_m1, zi_0, zi_1, zi_2, zi_3, zi_4, zi_5, zi_6, zi_8, zi_16, zb_m10, zb_m4, zb_m3, zb_m2, zb_6, zb_7, zb_8, zb_9, zb_10, zb_16, zb_20, zb_23, zb_30, zb_32, zb_35, zb_46, zb_48, zb_56, zb_57, zb_59, zb_63, zb_70, zb_98, zb_99, zb_100, zb_111, zb_112, zs_192, zs_255, zs_256, zs_511, zs_512, zs_12345, zf_X7_10_0, zf_X7_19_0, zf_X7_26_0, zf_X7_33_0, zf_X7_39_0, zf_X7_43_0, zf_X7_47_0, zf_X7_50_0, zf_X7_53_0, zf_X7_56_0, zf_X7_59_0, zkc_X7_223, zkl_X7_313, zkl_X7_240, zkl_X7_305, za_C_2, za_C_3, za_C_4, za_C_5, za_C_6, za_C_8, za_C_9, za_C_10, za_C_12, za_C_14, za_C_15, za_C_16, za_C_17, za_C_22, za_C_23, za_C_24, za_C_25, dX7_burns_0, dX7_burns_1, dX7_burns_2, dX7_burns_5, dX7_burns_8, dX7_burns_9, dX7_burns_12, dX7_burns_14, cr_X7_burns_99, wr_X7_isKing]
    unfold q_burns at hk
    exact ⟨hC, fun c => by rw [if_pos c] at hk; exact hk, fun c => by rw [if_neg c] at hk; exact hk⟩
  · exact h.elim
theorem ok_X7_burns (T : ZT) {tl : List ZE} : z_Ok (z_shC tl) yX7_burns cX7_burns 2 (some .int) ({ frames := 2, cells := 0, slots := 0, locals := 43 } : Room) 0 (wp_X7_burns T) := z_Ok_of (pu_X7_burns T) z_fX7_ok z_kX7_ok (co_X7_burns T) ⟨by decide, by decide⟩ (by decide +kernel)
theorem rec_X7_burns (T : ZT) {tl : List ZE} : z_rec (z_shC tl) (wp_X7_burns T) 6 := by
  intro as S post h
  unfold wp_X7_burns at h
  split at h
  · exact ⟨_, _, _, rfl, rfl⟩
  · exact h.elim
theorem n_max0 {a b : Nat} (ha : a < 1073741824) (hb : b < 1073741824) : (if 0 < nI a - nI b then nI a - nI b else 0) = nI (a - b) := by
  rcases Nat.lt_or_ge a b with h | h
  · have h1 : nI a - nI b < 0 := pk_sneg hb h
    rw [if_neg (by rw [i_lt] at *; omega), Nat.sub_eq_zero_of_le (by omega)]
    rfl
  · rw [show nI a - nI b = nI (a - b) from pk_sub h]
    by_cases e : a - b = 0
    · rw [e]; rfl
    · rw [if_pos (by rw [show (0 : Int32) = nI 0 from rfl, n_lt (by omega) (by omega)]; omega)]
def wp_X7_share (T : ZT) : ZW := fun as S k => match as with
  | [.ref 0, .int a, .int b, .int s, .int w] => CR T S ∧ k (some (.int (q_share T a b s w))) S
  | _ => False
theorem wr_X7_share {T : ZT} {a : Int32} {b : Int32} {s : Int32} {w : Int32} {S : ZS} {k : Option Value → ZS → Prop} : (wp_X7_share T) [.ref 0, .int a, .int b, .int s, .int w] S k = (CR T S ∧ k (some (.int (q_share T a b s w))) S) := rfl
def cs_X7_share (T : ZT) : List (Nat × ZC) := [(99, (2, 0, false, (wp_X7_isKing T))), (134, (1, 0, true, wp_X7_isSet)), (67, (3, 0, true, wp_X7_within)), (168, (3, 0, false, (wp_X7_mostPaid T))), (171, (2, 0, true, wp_max)), (176, (2, 0, true, wp_min))]
theorem cr_X7_share_99 {T : ZT} : (cs_X7_share T).lookup 99 = some (2, 0, false, (wp_X7_isKing T)) := rfl
theorem cr_X7_share_134 {T : ZT} : (cs_X7_share T).lookup 134 = some (1, 0, true, wp_X7_isSet) := rfl
theorem cr_X7_share_67 {T : ZT} : (cs_X7_share T).lookup 67 = some (3, 0, true, wp_X7_within) := rfl
theorem cr_X7_share_168 {T : ZT} : (cs_X7_share T).lookup 168 = some (3, 0, false, (wp_X7_mostPaid T)) := rfl
theorem cr_X7_share_171 {T : ZT} : (cs_X7_share T).lookup 171 = some (2, 0, true, wp_max) := rfl
theorem cr_X7_share_176 {T : ZT} : (cs_X7_share T).lookup 176 = some (2, 0, true, wp_min) := rfl
set_option maxRecDepth 20000 in
theorem co_X7_share (T : ZT) {tl : List ZE} : z_csok RX7 ({ frames := 4, cells := 0, slots := 0, locals := 89 } : Room) (z_shC tl) (cs_X7_share T) := z_cs2 (z_csV (ok_X7_isKing T) (rec_X7_isKing T) rfl (z_g 313 (by decide +kernel) rfl) (z_g 315 (by decide +kernel) rfl) (z_g 1 (by decide +kernel) rfl) (z_g 316 (by decide +kernel) rfl) (z_g 44 (by decide +kernel) rfl) rfl rfl (by decide +kernel) ⟨by decide, by decide⟩)
  (z_cs2 (z_csS ok_X7_isSet (z_g 399 (by decide +kernel) rfl) (z_g 400 (by decide +kernel) rfl) (z_g 44 (by decide +kernel) rfl) (z_g 401 (by decide +kernel) rfl) rfl rfl (by decide +kernel) ⟨by decide, by decide⟩)
  (z_cs2 (z_csS ok_X7_within (z_g 210 (by decide +kernel) rfl) (z_g 211 (by decide +kernel) rfl) (z_g 44 (by decide +kernel) rfl) (z_g 212 (by decide +kernel) rfl) rfl rfl (by decide +kernel) ⟨by decide, by decide⟩)
  (z_cs2 (z_csV (ok_X7_mostPaid T) (rec_X7_mostPaid T) rfl (z_g 443 (by decide +kernel) rfl) (z_g 445 (by decide +kernel) rfl) (z_g 6 (by decide +kernel) rfl) (z_g 446 (by decide +kernel) rfl) (z_g 44 (by decide +kernel) rfl) rfl rfl (by decide +kernel) ⟨by decide, by decide⟩)
  (z_cs2 (z_cs_max (z_g 481 (by decide +kernel) rfl) (z_g 482 (by decide +kernel) rfl) (z_g 53 (by decide +kernel) rfl) (z_g 483 (by decide +kernel) rfl) ⟨by decide, by decide⟩)
  (z_cs2 (z_cs_min (z_g 447 (by decide +kernel) rfl) (z_g 448 (by decide +kernel) rfl) (z_g 53 (by decide +kernel) rfl) (z_g 449 (by decide +kernel) rfl) ⟨by decide, by decide⟩)
  (z_cs0))))))
set_option maxHeartbeats 4000000 in
set_option maxRecDepth 20000 in
theorem pu_X7_share (T : ZT) {tl : List ZE} : z_Pure cX7_share 7 (z_shC tl) z_fX7 (cs_X7_share T) z_kcX7 z_klX7 (some .int) 0 (wp_X7_share T) := by
  intro as S post h
  unfold wp_X7_share at h
  split at h
  · rename_i a b s w
    refine ⟨Nat.le_of_ble_eq_true rfl, fun K hK => ?_⟩
    change K 0 0 [some (.ref 0), some (.int a), some (.int b), some (.int s), some (.int w), none, none] [] S
    obtain ⟨hC, hk⟩ := h
    have hn := CR_M hC
    have hp := hC.1.2.2.1.1
    refine hK (z_in []) 100 _ _ _ _ _ (Nat.zero_le _) ?_
    simp (config := { maxSteps := 10000000 }) only [z40, z20, z10, z01, zm0, z0m, ze_s, ze_ok, zt_s, zt_t, zt_f, zl_I, zl_J, zl_R, zl_N, zl_C, zl_K, zl_M, zl_ar0, zl_ar1, zl_ar2, zl_ar3, zl_as0, zl_as1, zl_as2, zl_al, zl_gf, zl_gr, zl_pf, zl_iv, zl_ivn, zlk_n, zlk_c, ztb_n, ztb_c, zin_n, zin_1, zin_c, Int.reduceLT, decide_true, decide_false, Bool.true_and, Bool.and_true, List.length_cons, List.length_nil, Int.reduceSub, Int.reduceEq, Int.natCast_zero, zk_s, z_in_n, z_in_c, z_gt_0, z_gt_s, zst_0, zst_1, zst_s, zsl_0, zsl_1, zsl_s, zc_n, zc_i, zc_l, zc_r, zc_u, zca_n, zca_i, zca_l, zca_r, zca_u, zrt_i, zrt_z, zrt_o, z_cal_0, z_cal_s, true_and, and_true, List.nil_append, List.cons_append, Option.toList_some, Option.toList_none, Nat.reduceAdd, Nat.reduceBEq, Nat.reduceLT, Nat.reduceLeDiff, Nat.reduceSub, Int.reduceAdd, Int.reduceLE, Int.reduceToNat, Int.cast_ofNat_Int, Bool.or_true, Bool.true_or, Bool.or_false, Bool.false_or, Nat.le_refl, Nat.zero_le, or_true, true_or, or_false, false_or, not_true_eq_false, not_false_eq_true, not_false_iff, false_implies, true_implies, eq_self, zo_iconst, zo_bipush, zo_sipush, zo_lconst, zo_ldc, zo_ldc_w, zo_ldc2_w, zo_iload_n, zo_iload, zo_lload_n, zo_lload, zo_aload_n, zo_aload, zo_istore_n, zo_istore, zo_lstore_n, zo_lstore, zo_astore_n, zo_astore, zo_iinc, zo_iadd, zo_isub, zo_imul, zo_iand, zo_ior, zo_ixor, zo_ishl, zo_ishr, zo_iushr, zo_idiv, zo_irem, zo_ladd, zo_lsub, zo_lmul, zo_ldiv, zo_lrem, zo_lcmp, zo_i2l, zo_i2b, zo_i2s, zo_dup, zo_dup2, zo_aconst_null, zo_if_icmp, zo_ifCond, zo_goto, zo_ifnull, zo_ifnonnull, zo_iaload, zo_baload, zo_laload, zo_aaload, zo_iastore, zo_bastore, zo_lastore, zo_arraylength, zo_getfield, zo_putfield, zo_tableswitch, zo_lookupswitch, zo_ireturn, zo_lreturn, zo_areturn, zo_return, zo_invokestatic, zo_invokevirtual, zo_new, zo_invokespecial, zo_newarray, zo_anewarray, zo_aastore, zy_0_1, zy_0_2, zy_0_3, zy_1_1, zy_1_2, zy_2_1, zy_2_2, zy_2_3, zy_3_0, zy_4_3, zy_5_1, zy_5_2, zy_6_5, zy_6_6, zy_6_7, zy_6_8, zy_6_9, zy_6_10, zy_7_2, zy_7_6, zy_7_9, zy_7_10, zy_7_11, zy_7_12, zy_7_14, zy_7_21, zy_7_30, zq_iconst, zq_bipush, zq_sipush, zq_lconst0, zq_lconst1, zq_ldc, zq_ldc_w, zq_ldc2_w, zq_iload0, zq_iload1, zq_iload2, zq_iload3, zq_iload, zq_lload0, zq_lload1, zq_lload2, zq_lload3, zq_lload, zq_aload0, zq_aload1, zq_aload2, zq_aload3, zq_aload, zq_istore0, zq_istore1, zq_istore2, zq_istore3, zq_istore, zq_lstore0, zq_lstore1, zq_lstore2, zq_lstore3, zq_lstore, zq_astore0, zq_astore0N, zq_astore1, zq_astore1N, zq_astore2, zq_astore2N, zq_astore3, zq_astore3N, zq_astore, zq_astoreN, zq_iinc, zq_iadd, zq_isub, zq_imul, zq_iand, zq_ior, zq_ixor, zq_ishl, zq_ishr, zq_iushr, zq_idiv, zq_irem, zq_ladd, zq_lsub, zq_lmul, zq_ldiv, zq_lrem, zq_lcmp, zq_i2l, zq_i2b, zq_i2s, zq_dup_i, zq_dup_r, zq_dup2, zq_null, zq_icmp_eq, zq_if_eq, zq_icmp_ne, zq_if_ne, zq_icmp_lt, zq_if_lt, zq_icmp_ge, zq_if_ge, zq_icmp_gt, zq_if_gt, zq_icmp_le, zq_if_le, zq_goto, zq_ifnull_r, zq_ifnull_n, zq_ifnonnull_r, zq_ifnonnull_n, zq_iaload, zq_baload, zq_laload, zq_aaload, zq_iastore, zq_bastore, zq_lastore, zq_alen, zq_getf, zq_put, zq_tsw, zq_lsw, zq_ireturn, zq_lreturn, zq_areturn, zq_areturnN, zq_return, zq_invokestatic, zq_invokevirtual, zq_new, zq_invokespecial, zq_newarray, zq_anewarray, zq_aastore, zi_m1, zi_0, zi_1, zi_2, zi_3, zi_4, zi_5, zi_6, zi_8, zi_16, zb_m10, zb_m4, zb_m3, zb_m2, zb_6, zb_7, zb_8, zb_9, zb_10, zb_16, zb_20, zb_23, zb_30, zb_32, zb_35, zb_46, zb_48, zb_56, zb_57, zb_59, zb_63, zb_70, zb_98, zb_99, zb_100, zb_111, zb_112, zs_192, zs_255, zs_256, zs_511, zs_512, zs_12345, zf_X7_10_0, zf_X7_19_0, zf_X7_26_0, zf_X7_33_0, zf_X7_39_0, zf_X7_43_0, zf_X7_47_0, zf_X7_50_0, zf_X7_53_0, zf_X7_56_0, zf_X7_59_0, zkc_X7_223, zkl_X7_313, zkl_X7_240, zkl_X7_305, za_C_2, za_C_3, za_C_4, za_C_5, za_C_6, za_C_8, za_C_9, za_C_10, za_C_12, za_C_14, za_C_15, za_C_16, za_C_17, za_C_22, za_C_23, za_C_24, za_C_25, dX7_share_0, dX7_share_1, dX7_share_2, dX7_share_5, dX7_share_8, dX7_share_9, dX7_share_10, dX7_share_13, dX7_share_16, dX7_share_17, dX7_share_18, dX7_share_21, dX7_share_22, dX7_share_25, dX7_share_28, dX7_share_30, dX7_share_31, dX7_share_32, dX7_share_35, dX7_share_38, dX7_share_40, dX7_share_41, dX7_share_42, dX7_share_43, dX7_share_46, dX7_share_47, dX7_share_48, dX7_share_49, dX7_share_52, dX7_share_53, dX7_share_56, dX7_share_58, dX7_share_59, dX7_share_62, dX7_share_63, dX7_share_64, dX7_share_65, dX7_share_68, dX7_share_71, dX7_share_73, dX7_share_75, dX7_share_77, dX7_share_80, dX7_share_81, dX7_share_82, dX7_share_84, dX7_share_87, dX7_share_89, dX7_share_92, dX7_share_94, cr_X7_share_99, cr_X7_share_134, cr_X7_share_67, cr_X7_share_168, cr_X7_share_171, cr_X7_share_176, wr_X7_isKing, wr_X7_isSet, wr_X7_within, wr_X7_mostPaid, wr_max, wr_min]
    have e1 : (0 ≤ s ∧ s ≤ 511) ↔ i_in s 512 := w_in (m := 511) (by decide)
    have e2 : (0 ≤ w ∧ w ≤ 1) ↔ i_in w 2 := w_in (m := 1) (by decide)
    rw [e1, e2]
    unfold q_share at hk
    have bad : ¬ (i_in a (tM T) ∧ i_in b (tM T) ∧ ¬ a = b ∧ i_in s 512 ∧ i_in w 2) → post (some (.int (-2))) S := by
      intro q
      rw [if_neg q] at hk; exact hk
    refine ⟨hC, fun c1 => ⟨hC, fun c2 => ⟨fun c3 => bad (fun q => q.2.2.1 c3), fun c3 => ⟨fun c4 => ⟨fun c5 => ?_, fun c5 => bad (fun q => c5 q.2.2.2.2)⟩, fun c4 => bad (fun q => c4 q.2.2.2.1)⟩⟩, fun c2 => bad (fun q => c2 q.2.1)⟩, fun c1 => bad (fun q => c1 q.1)⟩
    rw [if_pos ⟨c1, c2, c3, c4, c5⟩] at hk
    obtain ⟨ea, ha⟩ := i_inI c1 (by omega)
    obtain ⟨eb, hb⟩ := i_inI c2 (by omega)
    obtain ⟨es, hs⟩ := i_inI c4 (by omega)
    have g1 := (tP_le hC ha (cn s)).1
    have g2 := (tP_le hC hb (cn s)).1
    refine ⟨cn b, cn s, hC, eb, es, hb, cn a, cn s, hC, ea, es, ha, ?_⟩
    rw [(CR_nums hC).1]
    simp only [n_max0 (a := tpr T) (b := tP T (cn b) (cn s)) (by omega) (by omega), n_lt (a := tP T (cn a) (cn s)) (b := tpr T) (by omega) (by omega), n_ite]
    generalize hm : (if tP T (cn a) (cn s) < tpr T then tP T (cn a) (cn s) else tpr T) = m at *
    have hm2 : m ≤ 99 := by rw [← hm]; split <;> omega
    rw [n_le (a := tpr T - tP T (cn b) (cn s)) (b := m) (by omega) (by omega)]
    refine ⟨fun d => ⟨fun e => ?_, fun e => ?_⟩, fun d => ?_⟩
    · rw [if_neg (by omega), if_pos e] at hk; exact hk
    · rw [if_neg (by omega), if_neg e] at hk; exact hk
    · rw [if_pos (by omega)] at hk; exact hk
  · exact h.elim
theorem ok_X7_share (T : ZT) {tl : List ZE} : z_Ok (z_shC tl) yX7_share cX7_share 7 (some .int) ({ frames := 4, cells := 0, slots := 0, locals := 89 } : Room) 0 (wp_X7_share T) := z_Ok_of (pu_X7_share T) z_fX7_ok z_kX7_ok (co_X7_share T) ⟨by decide, by decide⟩ (by decide +kernel)
theorem rec_X7_share (T : ZT) {tl : List ZE} : z_rec (z_shC tl) (wp_X7_share T) 6 := by
  intro as S post h
  unfold wp_X7_share at h
  split at h
  · exact ⟨_, _, _, rfl, rfl⟩
  · exact h.elim

