/-! leaves of the class -/
def wp_X7_within : ZW := fun as S k => match as with
  | [.int v, .int lo, .int hi] => (lo ≤ v ∧ v ≤ hi → k (some (.int 1)) S) ∧ (¬ (lo ≤ v ∧ v ≤ hi) → k (some (.int 0)) S)
  | _ => False
theorem wr_X7_within {v : Int32} {lo : Int32} {hi : Int32} {S : ZS} {k : Option Value → ZS → Prop} : wp_X7_within [.int v, .int lo, .int hi] S k = ((lo ≤ v ∧ v ≤ hi → k (some (.int 1)) S) ∧ (¬ (lo ≤ v ∧ v ≤ hi) → k (some (.int 0)) S)) := rfl
def cs_X7_within : List (Nat × ZC) := []
set_option maxRecDepth 20000 in
theorem co_X7_within {tl : List ZE} : z_csok RX7 ({ frames := 0, cells := 0, slots := 0, locals := 0 } : Room) (z_shC tl) cs_X7_within := z_cs0
set_option maxHeartbeats 4000000 in
set_option maxRecDepth 20000 in
theorem pu_X7_within {tl : List ZE} : z_Pure cX7_within 3 (z_shC tl) z_fX7 cs_X7_within z_kcX7 z_klX7 (some .boolean) 0 wp_X7_within := by
  intro as S post h
  unfold wp_X7_within at h
  split at h
  · rename_i v lo hi
    refine ⟨Nat.le_of_ble_eq_true rfl, fun K hK => ?_⟩
    change K 0 0 [some (.int v), some (.int lo), some (.int hi)] [] S
    refine hK (z_in []) 60 _ _ _ _ _ (Nat.zero_le _) ?_
    simp (config := { maxSteps := 10000000 }) only [z10, z01, zm0, z0m, ze_s, ze_ok, zt_s, zt_t, zt_f, zl_I, zl_J, zl_R, zl_N, zl_C, zl_K, zl_M, zl_ar0, zl_ar1, zl_ar2, zl_ar3, zl_as0, zl_as1, zl_as2, zl_al, zl_gf, zl_gr, zl_pf, zl_iv, zl_ivn, zk_s, z_in_n, z_in_c, z_gt_0, z_gt_s, zst_0, zst_1, zst_s, zsl_0, zsl_1, zsl_s, zc_n, zc_i, zc_l, zc_r, zc_u, zca_n, zca_i, zca_l, zca_r, zca_u, zrt_i, zrt_z, zrt_o, z_cal_0, z_cal_s, true_and, and_true, List.nil_append, List.cons_append, Option.toList_some, Option.toList_none, Nat.reduceAdd, Nat.reduceBEq, Nat.reduceLT, Nat.reduceLeDiff, Nat.reduceSub, Int.reduceAdd, Int.reduceLE, Int.reduceToNat, Int.cast_ofNat_Int, Bool.or_true, Bool.true_or, Bool.or_false, Bool.false_or, Nat.le_refl, Nat.zero_le, or_true, true_or, or_false, false_or, not_true_eq_false, not_false_eq_true, false_implies, true_implies, eq_self, zo_iconst, zo_bipush, zo_sipush, zo_lconst, zo_ldc, zo_ldc_w, zo_ldc2_w, zo_iload_n, zo_iload, zo_lload_n, zo_lload, zo_aload_n, zo_aload, zo_istore_n, zo_istore, zo_lstore_n, zo_lstore, zo_astore_n, zo_astore, zo_iinc, zo_iadd, zo_isub, zo_imul, zo_iand, zo_ior, zo_ixor, zo_ishl, zo_ishr, zo_iushr, zo_idiv, zo_irem, zo_ladd, zo_lsub, zo_lmul, zo_ldiv, zo_lrem, zo_lcmp, zo_i2l, zo_i2b, zo_i2s, zo_dup, zo_dup2, zo_aconst_null, zo_if_icmp, zo_ifCond, zo_goto, zo_ifnull, zo_ifnonnull, zo_iaload, zo_baload, zo_laload, zo_aaload, zo_iastore, zo_bastore, zo_lastore, zo_arraylength, zo_getfield, zo_putfield, zo_tableswitch, zo_lookupswitch, zo_ireturn, zo_lreturn, zo_areturn, zo_return, zo_invokestatic, zo_invokevirtual, zo_new, zo_invokespecial, zo_newarray, zo_anewarray, zo_aastore, zq_iconst, zq_bipush, zq_sipush, zq_lconst0, zq_lconst1, zq_ldc, zq_ldc_w, zq_ldc2_w, zq_iload0, zq_iload1, zq_iload2, zq_iload3, zq_iload, zq_lload0, zq_lload1, zq_lload2, zq_lload3, zq_lload, zq_aload0, zq_aload1, zq_aload2, zq_aload3, zq_aload, zq_istore0, zq_istore1, zq_istore2, zq_istore3, zq_istore, zq_lstore0, zq_lstore1, zq_lstore2, zq_lstore3, zq_lstore, zq_astore0, zq_astore0N, zq_astore1, zq_astore1N, zq_astore2, zq_astore2N, zq_astore3, zq_astore3N, zq_astore, zq_astoreN, zq_iinc, zq_iadd, zq_isub, zq_imul, zq_iand, zq_ior, zq_ixor, zq_ishl, zq_ishr, zq_iushr, zq_idiv, zq_irem, zq_ladd, zq_lsub, zq_lmul, zq_ldiv, zq_lrem, zq_lcmp, zq_i2l, zq_i2b, zq_i2s, zq_dup_i, zq_dup_r, zq_dup2, zq_null, zq_icmp_eq, zq_if_eq, zq_icmp_ne, zq_if_ne, zq_icmp_lt, zq_if_lt, zq_icmp_ge, zq_if_ge, zq_icmp_gt, zq_if_gt, zq_icmp_le, zq_if_le, zq_goto, zq_ifnull_r, zq_ifnull_n, zq_ifnonnull_r, zq_ifnonnull_n, zq_iaload, zq_baload, zq_laload, zq_aaload, zq_iastore, zq_bastore, zq_lastore, zq_alen, zq_getf, zq_put, zq_tsw, zq_lsw, zq_ireturn, zq_lreturn, zq_areturn, zq_areturnN, zq_return, zq_invokestatic, zq_invokevirtual, zq_new, zq_invokespecial, zq_newarray, zq_anewarray, zq_aastore, zi_m1, zi_0, zi_1, zi_2, zi_3, zi_4, zi_5, zi_6, zi_8, zi_16, zb_m10, zb_m4, zb_m3, zb_m2, zb_6, zb_7, zb_8, zb_9, zb_10, zb_16, zb_20, zb_23, zb_30, zb_32, zb_35, zb_46, zb_48, zb_56, zb_57, zb_59, zb_63, zb_70, zb_98, zb_99, zb_100, zb_111, zb_112, zs_192, zs_255, zs_256, zs_511, zs_512, zs_12345, zf_X7_10_0, zf_X7_19_0, zf_X7_26_0, zf_X7_33_0, zf_X7_39_0, zf_X7_43_0, zf_X7_47_0, zf_X7_50_0, zf_X7_53_0, zf_X7_56_0, zf_X7_59_0, zkc_X7_223, zkl_X7_313, zkl_X7_240, zkl_X7_305, za_C_2, za_C_3, za_C_4, za_C_5, za_C_6, za_C_8, za_C_9, za_C_10, za_C_12, za_C_14, za_C_15, za_C_16, za_C_17, za_C_22, za_C_23, za_C_24, za_C_25, dX7_within_0, dX7_within_1, dX7_within_2, dX7_within_5, dX7_within_6, dX7_within_7, dX7_within_10, dX7_within_11, dX7_within_14, dX7_within_15]
    refine ⟨fun h1 => h.2 (fun h3 => ?_), fun h1 => ⟨fun h2 => h.2 (fun h3 => ?_), fun h2 => h.1 ⟨?_, ?_⟩⟩⟩
    · simp only [i_lt, i_le] at h1 h3; omega
    · simp only [i_lt, i_le] at h2 h3; omega
    · simp only [i_lt, i_le] at h1 ⊢; omega
    · simp only [i_lt, i_le] at h2 ⊢; omega
  · exact h.elim
theorem ok_X7_within {tl : List ZE} : z_Ok (z_shC tl) yX7_within cX7_within 3 (some .boolean) ({ frames := 0, cells := 0, slots := 0, locals := 0 } : Room) 0 wp_X7_within := z_Ok_of pu_X7_within z_fX7_ok z_kX7_ok co_X7_within ⟨by decide, by decide⟩ (by decide +kernel)
def wp_X7_isSet : ZW := fun as S k => match as with
  | [.int v] => (0 ≤ v ∧ v ≤ 511 → k (some (.int 1)) S) ∧ (¬ (0 ≤ v ∧ v ≤ 511) → k (some (.int 0)) S)
  | _ => False
theorem wr_X7_isSet {v : Int32} {S : ZS} {k : Option Value → ZS → Prop} : wp_X7_isSet [.int v] S k = ((0 ≤ v ∧ v ≤ 511 → k (some (.int 1)) S) ∧ (¬ (0 ≤ v ∧ v ≤ 511) → k (some (.int 0)) S)) := rfl
def cs_X7_isSet : List (Nat × ZC) := [(67, (3, 0, true, wp_X7_within))]
theorem cr_X7_isSet_67 : cs_X7_isSet.lookup 67 = some (3, 0, true, wp_X7_within) := rfl
set_option maxRecDepth 20000 in
theorem co_X7_isSet {tl : List ZE} : z_csok RX7 ({ frames := 1, cells := 0, slots := 0, locals := 22 } : Room) (z_shC tl) cs_X7_isSet := z_cs2 (z_csS ok_X7_within (z_g 210 (by decide +kernel) rfl) (z_g 211 (by decide +kernel) rfl) (z_g 44 (by decide +kernel) rfl) (z_g 212 (by decide +kernel) rfl) rfl rfl (by decide +kernel) ⟨by decide, by decide⟩)
  (z_cs0)
set_option maxHeartbeats 4000000 in
set_option maxRecDepth 20000 in
theorem pu_X7_isSet {tl : List ZE} : z_Pure cX7_isSet 1 (z_shC tl) z_fX7 cs_X7_isSet z_kcX7 z_klX7 (some .boolean) 0 wp_X7_isSet := by
  intro as S post h
  unfold wp_X7_isSet at h
  split at h
  · rename_i v
    refine ⟨Nat.le_of_ble_eq_true rfl, fun K hK => ?_⟩
    change K 0 0 [some (.int v)] [] S
    refine hK (z_in []) 60 _ _ _ _ _ (Nat.zero_le _) ?_
    simp (config := { maxSteps := 10000000 }) only [z10, z01, zm0, z0m, ze_s, ze_ok, zt_s, zt_t, zt_f, zl_I, zl_J, zl_R, zl_N, zl_C, zl_K, zl_M, zl_ar0, zl_ar1, zl_ar2, zl_ar3, zl_as0, zl_as1, zl_as2, zl_al, zl_gf, zl_gr, zl_pf, zl_iv, zl_ivn, zk_s, z_in_n, z_in_c, z_gt_0, z_gt_s, zst_0, zst_1, zst_s, zsl_0, zsl_1, zsl_s, zc_n, zc_i, zc_l, zc_r, zc_u, zca_n, zca_i, zca_l, zca_r, zca_u, zrt_i, zrt_z, zrt_o, z_cal_0, z_cal_s, true_and, and_true, List.nil_append, List.cons_append, Option.toList_some, Option.toList_none, Nat.reduceAdd, Nat.reduceBEq, Nat.reduceLT, Nat.reduceLeDiff, Nat.reduceSub, Int.reduceAdd, Int.reduceLE, Int.reduceToNat, Int.cast_ofNat_Int, Bool.or_true, Bool.true_or, Bool.or_false, Bool.false_or, Nat.le_refl, Nat.zero_le, or_true, true_or, or_false, false_or, not_true_eq_false, not_false_eq_true, false_implies, true_implies, eq_self, zo_iconst, zo_bipush, zo_sipush, zo_lconst, zo_ldc, zo_ldc_w, zo_ldc2_w, zo_iload_n, zo_iload, zo_lload_n, zo_lload, zo_aload_n, zo_aload, zo_istore_n, zo_istore, zo_lstore_n, zo_lstore, zo_astore_n, zo_astore, zo_iinc, zo_iadd, zo_isub, zo_imul, zo_iand, zo_ior, zo_ixor, zo_ishl, zo_ishr, zo_iushr, zo_idiv, zo_irem, zo_ladd, zo_lsub, zo_lmul, zo_ldiv, zo_lrem, zo_lcmp, zo_i2l, zo_i2b, zo_i2s, zo_dup, zo_dup2, zo_aconst_null, zo_if_icmp, zo_ifCond, zo_goto, zo_ifnull, zo_ifnonnull, zo_iaload, zo_baload, zo_laload, zo_aaload, zo_iastore, zo_bastore, zo_lastore, zo_arraylength, zo_getfield, zo_putfield, zo_tableswitch, zo_lookupswitch, zo_ireturn, zo_lreturn, zo_areturn, zo_return, zo_invokestatic, zo_invokevirtual, zo_new, zo_invokespecial, zo_newarray, zo_anewarray, zo_aastore, zq_iconst, zq_bipush, zq_sipush, zq_lconst0, zq_lconst1, zq_ldc, zq_ldc_w, zq_ldc2_w, zq_iload0, zq_iload1, zq_iload2, zq_iload3, zq_iload, zq_lload0, zq_lload1, zq_lload2, zq_lload3, zq_lload, zq_aload0, zq_aload1, zq_aload2, zq_aload3, zq_aload, zq_istore0, zq_istore1, zq_istore2, zq_istore3, zq_istore, zq_lstore0, zq_lstore1, zq_lstore2, zq_lstore3, zq_lstore, zq_astore0, zq_astore0N, zq_astore1, zq_astore1N, zq_astore2, zq_astore2N, zq_astore3, zq_astore3N, zq_astore, zq_astoreN, zq_iinc, zq_iadd, zq_isub, zq_imul, zq_iand, zq_ior, zq_ixor, zq_ishl, zq_ishr, zq_iushr, zq_idiv, zq_irem, zq_ladd, zq_lsub, zq_lmul, zq_ldiv, zq_lrem, zq_lcmp, zq_i2l, zq_i2b, zq_i2s, zq_dup_i, zq_dup_r, zq_dup2, zq_null, zq_icmp_eq, zq_if_eq, zq_icmp_ne, zq_if_ne, zq_icmp_lt, zq_if_lt, zq_icmp_ge, zq_if_ge, zq_icmp_gt, zq_if_gt, zq_icmp_le, zq_if_le, zq_goto, zq_ifnull_r, zq_ifnull_n, zq_ifnonnull_r, zq_ifnonnull_n, zq_iaload, zq_baload, zq_laload, zq_aaload, zq_iastore, zq_bastore, zq_lastore, zq_alen, zq_getf, zq_put, zq_tsw, zq_lsw, zq_ireturn, zq_lreturn, zq_areturn, zq_areturnN, zq_return, zq_invokestatic, zq_invokevirtual, zq_new, zq_invokespecial, zq_newarray, zq_anewarray, zq_aastore, zi_m1, zi_0, zi_1, zi_2, zi_3, zi_4, zi_5, zi_6, zi_8, zi_16, zb_m10, zb_m4, zb_m3, zb_m2, zb_6, zb_7, zb_8, zb_9, zb_10, zb_16, zb_20, zb_23, zb_30, zb_32, zb_35, zb_46, zb_48, zb_56, zb_57, zb_59, zb_63, zb_70, zb_98, zb_99, zb_100, zb_111, zb_112, zs_192, zs_255, zs_256, zs_511, zs_512, zs_12345, zf_X7_10_0, zf_X7_19_0, zf_X7_26_0, zf_X7_33_0, zf_X7_39_0, zf_X7_43_0, zf_X7_47_0, zf_X7_50_0, zf_X7_53_0, zf_X7_56_0, zf_X7_59_0, zkc_X7_223, zkl_X7_313, zkl_X7_240, zkl_X7_305, za_C_2, za_C_3, za_C_4, za_C_5, za_C_6, za_C_8, za_C_9, za_C_10, za_C_12, za_C_14, za_C_15, za_C_16, za_C_17, za_C_22, za_C_23, za_C_24, za_C_25, dX7_isSet_0, dX7_isSet_1, dX7_isSet_2, dX7_isSet_5, dX7_isSet_8, cr_X7_isSet_67, wr_X7_within]
    exact h
  · exact h.elim
theorem ok_X7_isSet {tl : List ZE} : z_Ok (z_shC tl) yX7_isSet cX7_isSet 1 (some .boolean) ({ frames := 1, cells := 0, slots := 0, locals := 22 } : Room) 0 wp_X7_isSet := z_Ok_of pu_X7_isSet z_fX7_ok z_kX7_ok co_X7_isSet ⟨by decide, by decide⟩ (by decide +kernel)
def wp_X7_holds : ZW := fun as S k => match as with
  | [.int s, .int b] => ((0 ≤ b ∧ b ≤ 8) ∧ s >>> (b &&& 31) &&& 1 = 1 → k (some (.int 1)) S) ∧ (¬ ((0 ≤ b ∧ b ≤ 8) ∧ s >>> (b &&& 31) &&& 1 = 1) → k (some (.int 0)) S)
  | _ => False
theorem wr_X7_holds {s : Int32} {b : Int32} {S : ZS} {k : Option Value → ZS → Prop} : wp_X7_holds [.int s, .int b] S k = (((0 ≤ b ∧ b ≤ 8) ∧ s >>> (b &&& 31) &&& 1 = 1 → k (some (.int 1)) S) ∧ (¬ ((0 ≤ b ∧ b ≤ 8) ∧ s >>> (b &&& 31) &&& 1 = 1) → k (some (.int 0)) S)) := rfl
def cs_X7_holds : List (Nat × ZC) := [(67, (3, 0, true, wp_X7_within))]
theorem cr_X7_holds_67 : cs_X7_holds.lookup 67 = some (3, 0, true, wp_X7_within) := rfl
set_option maxRecDepth 20000 in
theorem co_X7_holds {tl : List ZE} : z_csok RX7 ({ frames := 1, cells := 0, slots := 0, locals := 22 } : Room) (z_shC tl) cs_X7_holds := z_cs2 (z_csS ok_X7_within (z_g 210 (by decide +kernel) rfl) (z_g 211 (by decide +kernel) rfl) (z_g 44 (by decide +kernel) rfl) (z_g 212 (by decide +kernel) rfl) rfl rfl (by decide +kernel) ⟨by decide, by decide⟩)
  (z_cs0)
set_option maxHeartbeats 4000000 in
set_option maxRecDepth 20000 in
theorem pu_X7_holds {tl : List ZE} : z_Pure cX7_holds 2 (z_shC tl) z_fX7 cs_X7_holds z_kcX7 z_klX7 (some .boolean) 0 wp_X7_holds := by
  intro as S post h
  unfold wp_X7_holds at h
  split at h
  · rename_i s b
    refine ⟨Nat.le_of_ble_eq_true rfl, fun K hK => ?_⟩
    change K 0 0 [some (.int s), some (.int b)] [] S
    refine hK (z_in []) 60 _ _ _ _ _ (Nat.zero_le _) ?_
    simp (config := { maxSteps := 10000000 }) only [z10, z01, zm0, z0m, ze_s, ze_ok, zt_s, zt_t, zt_f, zl_I, zl_J, zl_R, zl_N, zl_C, zl_K, zl_M, zl_ar0, zl_ar1, zl_ar2, zl_ar3, zl_as0, zl_as1, zl_as2, zl_al, zl_gf, zl_gr, zl_pf, zl_iv, zl_ivn, zk_s, z_in_n, z_in_c, z_gt_0, z_gt_s, zst_0, zst_1, zst_s, zsl_0, zsl_1, zsl_s, zc_n, zc_i, zc_l, zc_r, zc_u, zca_n, zca_i, zca_l, zca_r, zca_u, zrt_i, zrt_z, zrt_o, z_cal_0, z_cal_s, true_and, and_true, List.nil_append, List.cons_append, Option.toList_some, Option.toList_none, Nat.reduceAdd, Nat.reduceBEq, Nat.reduceLT, Nat.reduceLeDiff, Nat.reduceSub, Int.reduceAdd, Int.reduceLE, Int.reduceToNat, Int.cast_ofNat_Int, Bool.or_true, Bool.true_or, Bool.or_false, Bool.false_or, Nat.le_refl, Nat.zero_le, or_true, true_or, or_false, false_or, not_true_eq_false, not_false_eq_true, false_implies, true_implies, eq_self, zo_iconst, zo_bipush, zo_sipush, zo_lconst, zo_ldc, zo_ldc_w, zo_ldc2_w, zo_iload_n, zo_iload, zo_lload_n, zo_lload, zo_aload_n, zo_aload, zo_istore_n, zo_istore, zo_lstore_n, zo_lstore, zo_astore_n, zo_astore, zo_iinc, zo_iadd, zo_isub, zo_imul, zo_iand, zo_ior, zo_ixor, zo_ishl, zo_ishr, zo_iushr, zo_idiv, zo_irem, zo_ladd, zo_lsub, zo_lmul, zo_ldiv, zo_lrem, zo_lcmp, zo_i2l, zo_i2b, zo_i2s, zo_dup, zo_dup2, zo_aconst_null, zo_if_icmp, zo_ifCond, zo_goto, zo_ifnull, zo_ifnonnull, zo_iaload, zo_baload, zo_laload, zo_aaload, zo_iastore, zo_bastore, zo_lastore, zo_arraylength, zo_getfield, zo_putfield, zo_tableswitch, zo_lookupswitch, zo_ireturn, zo_lreturn, zo_areturn, zo_return, zo_invokestatic, zo_invokevirtual, zo_new, zo_invokespecial, zo_newarray, zo_anewarray, zo_aastore, zq_iconst, zq_bipush, zq_sipush, zq_lconst0, zq_lconst1, zq_ldc, zq_ldc_w, zq_ldc2_w, zq_iload0, zq_iload1, zq_iload2, zq_iload3, zq_iload, zq_lload0, zq_lload1, zq_lload2, zq_lload3, zq_lload, zq_aload0, zq_aload1, zq_aload2, zq_aload3, zq_aload, zq_istore0, zq_istore1, zq_istore2, zq_istore3, zq_istore, zq_lstore0, zq_lstore1, zq_lstore2, zq_lstore3, zq_lstore, zq_astore0, zq_astore0N, zq_astore1, zq_astore1N, zq_astore2, zq_astore2N, zq_astore3, zq_astore3N, zq_astore, zq_astoreN, zq_iinc, zq_iadd, zq_isub, zq_imul, zq_iand, zq_ior, zq_ixor, zq_ishl, zq_ishr, zq_iushr, zq_idiv, zq_irem, zq_ladd, zq_lsub, zq_lmul, zq_ldiv, zq_lrem, zq_lcmp, zq_i2l, zq_i2b, zq_i2s, zq_dup_i, zq_dup_r, zq_dup2, zq_null, zq_icmp_eq, zq_if_eq, zq_icmp_ne, zq_if_ne, zq_icmp_lt, zq_if_lt, zq_icmp_ge, zq_if_ge, zq_icmp_gt, zq_if_gt, zq_icmp_le, zq_if_le, zq_goto, zq_ifnull_r, zq_ifnull_n, zq_ifnonnull_r, zq_ifnonnull_n, zq_iaload, zq_baload, zq_laload, zq_aaload, zq_iastore, zq_bastore, zq_lastore, zq_alen, zq_getf, zq_put, zq_tsw, zq_lsw, zq_ireturn, zq_lreturn, zq_areturn, zq_areturnN, zq_return, zq_invokestatic, zq_invokevirtual, zq_new, zq_invokespecial, zq_newarray, zq_anewarray, zq_aastore, zi_m1, zi_0, zi_1, zi_2, zi_3, zi_4, zi_5, zi_6, zi_8, zi_16, zb_m10, zb_m4, zb_m3, zb_m2, zb_6, zb_7, zb_8, zb_9, zb_10, zb_16, zb_20, zb_23, zb_30, zb_32, zb_35, zb_46, zb_48, zb_56, zb_57, zb_59, zb_63, zb_70, zb_98, zb_99, zb_100, zb_111, zb_112, zs_192, zs_255, zs_256, zs_511, zs_512, zs_12345, zf_X7_10_0, zf_X7_19_0, zf_X7_26_0, zf_X7_33_0, zf_X7_39_0, zf_X7_43_0, zf_X7_47_0, zf_X7_50_0, zf_X7_53_0, zf_X7_56_0, zf_X7_59_0, zkc_X7_223, zkl_X7_313, zkl_X7_240, zkl_X7_305, za_C_2, za_C_3, za_C_4, za_C_5, za_C_6, za_C_8, za_C_9, za_C_10, za_C_12, za_C_14, za_C_15, za_C_16, za_C_17, za_C_22, za_C_23, za_C_24, za_C_25, dX7_holds_0, dX7_holds_1, dX7_holds_2, dX7_holds_4, dX7_holds_7, dX7_holds_10, dX7_holds_11, dX7_holds_12, dX7_holds_13, dX7_holds_14, dX7_holds_15, dX7_holds_16, dX7_holds_19, dX7_holds_20, dX7_holds_23, dX7_holds_24, cr_X7_holds_67, wr_X7_within]
    exact ⟨fun h1 => ⟨fun h2 => h.1 ⟨h1, h2⟩, fun h2 => h.2 (fun h3 => h2 h3.2)⟩, fun h1 => h.2 (fun h3 => h1 h3.1)⟩
  · exact h.elim
theorem ok_X7_holds {tl : List ZE} : z_Ok (z_shC tl) yX7_holds cX7_holds 2 (some .boolean) ({ frames := 1, cells := 0, slots := 0, locals := 22 } : Room) 0 wp_X7_holds := z_Ok_of pu_X7_holds z_fX7_ok z_kX7_ok co_X7_holds ⟨by decide, by decide⟩ (by decide +kernel)
def wp_X2_isFigure : ZW := fun as S k => match as with
  | [.int b, .int hi] => (48 ≤ b ∧ b ≤ hi → k (some (.int 1)) S) ∧ (¬ (48 ≤ b ∧ b ≤ hi) → k (some (.int 0)) S)
  | _ => False
theorem wr_X2_isFigure {b : Int32} {hi : Int32} {S : ZS} {k : Option Value → ZS → Prop} : wp_X2_isFigure [.int b, .int hi] S k = ((48 ≤ b ∧ b ≤ hi → k (some (.int 1)) S) ∧ (¬ (48 ≤ b ∧ b ≤ hi) → k (some (.int 0)) S)) := rfl
def cs_X2_isFigure : List (Nat × ZC) := [(28, (3, 0, true, wp_X7_within))]
theorem cr_X2_isFigure_28 : cs_X2_isFigure.lookup 28 = some (3, 0, true, wp_X7_within) := rfl
set_option maxRecDepth 20000 in
theorem co_X2_isFigure {tl : List ZE} : z_csok RX2 ({ frames := 1, cells := 0, slots := 0, locals := 22 } : Room) (z_shC tl) cs_X2_isFigure := z_cs2 (z_csN (host := "NineBooks") ok_X7_within (z_gn 237 (by decide +kernel) rfl) (z_g 211 (by decide +kernel) rfl) (z_g 44 (by decide +kernel) rfl) (z_g 212 (by decide +kernel) rfl) rfl rfl (by decide +kernel) ⟨by decide, by decide⟩)
  (z_cs0)
set_option maxHeartbeats 4000000 in
set_option maxRecDepth 20000 in
theorem pu_X2_isFigure {tl : List ZE} : z_Pure cX2_isFigure 2 (z_shC tl) z_fX2 cs_X2_isFigure z_kcX2 z_klX2 (some .boolean) 0 wp_X2_isFigure := by
  intro as S post h
  unfold wp_X2_isFigure at h
  split at h
  · rename_i b hi
    refine ⟨Nat.le_of_ble_eq_true rfl, fun K hK => ?_⟩
    change K 0 0 [some (.int b), some (.int hi)] [] S
    refine hK (z_in []) 60 _ _ _ _ _ (Nat.zero_le _) ?_
    simp (config := { maxSteps := 10000000 }) only [z10, z01, zm0, z0m, ze_s, ze_ok, zt_s, zt_t, zt_f, zl_I, zl_J, zl_R, zl_N, zl_C, zl_K, zl_M, zl_ar0, zl_ar1, zl_ar2, zl_ar3, zl_as0, zl_as1, zl_as2, zl_al, zl_gf, zl_gr, zl_pf, zl_iv, zl_ivn, zk_s, z_in_n, z_in_c, z_gt_0, z_gt_s, zst_0, zst_1, zst_s, zsl_0, zsl_1, zsl_s, zc_n, zc_i, zc_l, zc_r, zc_u, zca_n, zca_i, zca_l, zca_r, zca_u, zrt_i, zrt_z, zrt_o, z_cal_0, z_cal_s, true_and, and_true, List.nil_append, List.cons_append, Option.toList_some, Option.toList_none, Nat.reduceAdd, Nat.reduceBEq, Nat.reduceLT, Nat.reduceLeDiff, Nat.reduceSub, Int.reduceAdd, Int.reduceLE, Int.reduceToNat, Int.cast_ofNat_Int, Bool.or_true, Bool.true_or, Bool.or_false, Bool.false_or, Nat.le_refl, Nat.zero_le, or_true, true_or, or_false, false_or, not_true_eq_false, not_false_eq_true, false_implies, true_implies, eq_self, zo_iconst, zo_bipush, zo_sipush, zo_lconst, zo_ldc, zo_ldc_w, zo_ldc2_w, zo_iload_n, zo_iload, zo_lload_n, zo_lload, zo_aload_n, zo_aload, zo_istore_n, zo_istore, zo_lstore_n, zo_lstore, zo_astore_n, zo_astore, zo_iinc, zo_iadd, zo_isub, zo_imul, zo_iand, zo_ior, zo_ixor, zo_ishl, zo_ishr, zo_iushr, zo_idiv, zo_irem, zo_ladd, zo_lsub, zo_lmul, zo_ldiv, zo_lrem, zo_lcmp, zo_i2l, zo_i2b, zo_i2s, zo_dup, zo_dup2, zo_aconst_null, zo_if_icmp, zo_ifCond, zo_goto, zo_ifnull, zo_ifnonnull, zo_iaload, zo_baload, zo_laload, zo_aaload, zo_iastore, zo_bastore, zo_lastore, zo_arraylength, zo_getfield, zo_putfield, zo_tableswitch, zo_lookupswitch, zo_ireturn, zo_lreturn, zo_areturn, zo_return, zo_invokestatic, zo_invokevirtual, zo_new, zo_invokespecial, zo_newarray, zo_anewarray, zo_aastore, zq_iconst, zq_bipush, zq_sipush, zq_lconst0, zq_lconst1, zq_ldc, zq_ldc_w, zq_ldc2_w, zq_iload0, zq_iload1, zq_iload2, zq_iload3, zq_iload, zq_lload0, zq_lload1, zq_lload2, zq_lload3, zq_lload, zq_aload0, zq_aload1, zq_aload2, zq_aload3, zq_aload, zq_istore0, zq_istore1, zq_istore2, zq_istore3, zq_istore, zq_lstore0, zq_lstore1, zq_lstore2, zq_lstore3, zq_lstore, zq_astore0, zq_astore0N, zq_astore1, zq_astore1N, zq_astore2, zq_astore2N, zq_astore3, zq_astore3N, zq_astore, zq_astoreN, zq_iinc, zq_iadd, zq_isub, zq_imul, zq_iand, zq_ior, zq_ixor, zq_ishl, zq_ishr, zq_iushr, zq_idiv, zq_irem, zq_ladd, zq_lsub, zq_lmul, zq_ldiv, zq_lrem, zq_lcmp, zq_i2l, zq_i2b, zq_i2s, zq_dup_i, zq_dup_r, zq_dup2, zq_null, zq_icmp_eq, zq_if_eq, zq_icmp_ne, zq_if_ne, zq_icmp_lt, zq_if_lt, zq_icmp_ge, zq_if_ge, zq_icmp_gt, zq_if_gt, zq_icmp_le, zq_if_le, zq_goto, zq_ifnull_r, zq_ifnull_n, zq_ifnonnull_r, zq_ifnonnull_n, zq_iaload, zq_baload, zq_laload, zq_aaload, zq_iastore, zq_bastore, zq_lastore, zq_alen, zq_getf, zq_put, zq_tsw, zq_lsw, zq_ireturn, zq_lreturn, zq_areturn, zq_areturnN, zq_return, zq_invokestatic, zq_invokevirtual, zq_new, zq_invokespecial, zq_newarray, zq_anewarray, zq_aastore, zi_m1, zi_0, zi_1, zi_2, zi_3, zi_4, zi_5, zi_6, zi_8, zi_16, zb_m10, zb_m4, zb_m3, zb_m2, zb_6, zb_7, zb_8, zb_9, zb_10, zb_16, zb_20, zb_23, zb_30, zb_32, zb_35, zb_46, zb_48, zb_56, zb_57, zb_59, zb_63, zb_70, zb_98, zb_99, zb_100, zb_111, zb_112, zs_192, zs_255, zs_256, zs_511, zs_512, zs_12345, zf_X2_21_1, zf_X2_21_7, zf_X2_9_1, zf_X2_9_7, zf_X2_15_1, zf_X2_15_7, zf_X2_18_1, zf_X2_18_7, za_C_2, za_C_3, za_C_4, za_C_5, za_C_6, za_C_8, za_C_9, za_C_10, za_C_12, za_C_14, za_C_15, za_C_16, za_C_17, za_C_22, za_C_23, za_C_24, za_C_25, dX2_isFigure_0, dX2_isFigure_1, dX2_isFigure_3, dX2_isFigure_4, dX2_isFigure_7, cr_X2_isFigure_28, wr_X7_within]
    exact h
  · exact h.elim
theorem ok_X2_isFigure {tl : List ZE} : z_Ok (z_shC tl) yX2_isFigure cX2_isFigure 2 (some .boolean) ({ frames := 1, cells := 0, slots := 0, locals := 22 } : Room) 0 wp_X2_isFigure := z_Ok_of pu_X2_isFigure z_fX2_ok z_kX2_ok co_X2_isFigure ⟨by decide, by decide⟩ (by decide +kernel)
def wp_X2_length_B : ZW := fun as S k => match as with
  | [.ref 1] => k (some (.int (S.1 1 1))) S
  | _ => False
theorem wr_X2_length_B {S : ZS} {k : Option Value → ZS → Prop} : wp_X2_length_B [.ref 1] S k = (k (some (.int (S.1 1 1))) S) := rfl
def wp_X2_length_K : ZW := fun as S k => match as with
  | [.ref 7] => k (some (.int (S.1 7 1))) S
  | _ => False
theorem wr_X2_length_K {S : ZS} {k : Option Value → ZS → Prop} : wp_X2_length_K [.ref 7] S k = (k (some (.int (S.1 7 1))) S) := rfl
def cs_X2_length : List (Nat × ZC) := []
set_option maxRecDepth 20000 in
theorem co_X2_length {tl : List ZE} : z_csok RX2 ({ frames := 0, cells := 0, slots := 0, locals := 0 } : Room) (z_shC tl) cs_X2_length := z_cs0
set_option maxHeartbeats 4000000 in
set_option maxRecDepth 20000 in
theorem pu_X2_length_B {tl : List ZE} : z_Pure cX2_length 1 (z_shC tl) z_fX2 cs_X2_length z_kcX2 z_klX2 (some .int) 0 wp_X2_length_B := by
  intro as S post h
  unfold wp_X2_length_B at h
  split at h
  · skip
    refine ⟨Nat.le_of_ble_eq_true rfl, fun K hK => ?_⟩
    change K 0 0 [some (.ref 1)] [] S
    refine hK (z_in []) 60 _ _ _ _ _ (Nat.zero_le _) ?_
    simp (config := { maxSteps := 10000000 }) only [z10, z01, zm0, z0m, ze_s, ze_ok, zt_s, zt_t, zt_f, zl_I, zl_J, zl_R, zl_N, zl_C, zl_K, zl_M, zl_ar0, zl_ar1, zl_ar2, zl_ar3, zl_as0, zl_as1, zl_as2, zl_al, zl_gf, zl_gr, zl_pf, zl_iv, zl_ivn, zk_s, z_in_n, z_in_c, z_gt_0, z_gt_s, zst_0, zst_1, zst_s, zsl_0, zsl_1, zsl_s, zc_n, zc_i, zc_l, zc_r, zc_u, zca_n, zca_i, zca_l, zca_r, zca_u, zrt_i, zrt_z, zrt_o, z_cal_0, z_cal_s, true_and, and_true, List.nil_append, List.cons_append, Option.toList_some, Option.toList_none, Nat.reduceAdd, Nat.reduceBEq, Nat.reduceLT, Nat.reduceLeDiff, Nat.reduceSub, Int.reduceAdd, Int.reduceLE, Int.reduceToNat, Int.cast_ofNat_Int, Bool.or_true, Bool.true_or, Bool.or_false, Bool.false_or, Nat.le_refl, Nat.zero_le, or_true, true_or, or_false, false_or, not_true_eq_false, not_false_eq_true, false_implies, true_implies, eq_self, zo_iconst, zo_bipush, zo_sipush, zo_lconst, zo_ldc, zo_ldc_w, zo_ldc2_w, zo_iload_n, zo_iload, zo_lload_n, zo_lload, zo_aload_n, zo_aload, zo_istore_n, zo_istore, zo_lstore_n, zo_lstore, zo_astore_n, zo_astore, zo_iinc, zo_iadd, zo_isub, zo_imul, zo_iand, zo_ior, zo_ixor, zo_ishl, zo_ishr, zo_iushr, zo_idiv, zo_irem, zo_ladd, zo_lsub, zo_lmul, zo_ldiv, zo_lrem, zo_lcmp, zo_i2l, zo_i2b, zo_i2s, zo_dup, zo_dup2, zo_aconst_null, zo_if_icmp, zo_ifCond, zo_goto, zo_ifnull, zo_ifnonnull, zo_iaload, zo_baload, zo_laload, zo_aaload, zo_iastore, zo_bastore, zo_lastore, zo_arraylength, zo_getfield, zo_putfield, zo_tableswitch, zo_lookupswitch, zo_ireturn, zo_lreturn, zo_areturn, zo_return, zo_invokestatic, zo_invokevirtual, zo_new, zo_invokespecial, zo_newarray, zo_anewarray, zo_aastore, zq_iconst, zq_bipush, zq_sipush, zq_lconst0, zq_lconst1, zq_ldc, zq_ldc_w, zq_ldc2_w, zq_iload0, zq_iload1, zq_iload2, zq_iload3, zq_iload, zq_lload0, zq_lload1, zq_lload2, zq_lload3, zq_lload, zq_aload0, zq_aload1, zq_aload2, zq_aload3, zq_aload, zq_istore0, zq_istore1, zq_istore2, zq_istore3, zq_istore, zq_lstore0, zq_lstore1, zq_lstore2, zq_lstore3, zq_lstore, zq_astore0, zq_astore0N, zq_astore1, zq_astore1N, zq_astore2, zq_astore2N, zq_astore3, zq_astore3N, zq_astore, zq_astoreN, zq_iinc, zq_iadd, zq_isub, zq_imul, zq_iand, zq_ior, zq_ixor, zq_ishl, zq_ishr, zq_iushr, zq_idiv, zq_irem, zq_ladd, zq_lsub, zq_lmul, zq_ldiv, zq_lrem, zq_lcmp, zq_i2l, zq_i2b, zq_i2s, zq_dup_i, zq_dup_r, zq_dup2, zq_null, zq_icmp_eq, zq_if_eq, zq_icmp_ne, zq_if_ne, zq_icmp_lt, zq_if_lt, zq_icmp_ge, zq_if_ge, zq_icmp_gt, zq_if_gt, zq_icmp_le, zq_if_le, zq_goto, zq_ifnull_r, zq_ifnull_n, zq_ifnonnull_r, zq_ifnonnull_n, zq_iaload, zq_baload, zq_laload, zq_aaload, zq_iastore, zq_bastore, zq_lastore, zq_alen, zq_getf, zq_put, zq_tsw, zq_lsw, zq_ireturn, zq_lreturn, zq_areturn, zq_areturnN, zq_return, zq_invokestatic, zq_invokevirtual, zq_new, zq_invokespecial, zq_newarray, zq_anewarray, zq_aastore, zi_m1, zi_0, zi_1, zi_2, zi_3, zi_4, zi_5, zi_6, zi_8, zi_16, zb_m10, zb_m4, zb_m3, zb_m2, zb_6, zb_7, zb_8, zb_9, zb_10, zb_16, zb_20, zb_23, zb_30, zb_32, zb_35, zb_46, zb_48, zb_56, zb_57, zb_59, zb_63, zb_70, zb_98, zb_99, zb_100, zb_111, zb_112, zs_192, zs_255, zs_256, zs_511, zs_512, zs_12345, zf_X2_21_1, zf_X2_21_7, zf_X2_9_1, zf_X2_9_7, zf_X2_15_1, zf_X2_15_7, zf_X2_18_1, zf_X2_18_7, za_C_2, za_C_3, za_C_4, za_C_5, za_C_6, za_C_8, za_C_9, za_C_10, za_C_12, za_C_14, za_C_15, za_C_16, za_C_17, za_C_22, za_C_23, za_C_24, za_C_25, dX2_length_0, dX2_length_1, dX2_length_4]
    exact h
  · exact h.elim
theorem ok_X2_length_B {tl : List ZE} : z_Ok (z_shC tl) yX2_length cX2_length 1 (some .int) ({ frames := 0, cells := 0, slots := 0, locals := 0 } : Room) 0 wp_X2_length_B := z_Ok_of pu_X2_length_B z_fX2_ok z_kX2_ok co_X2_length ⟨by decide, by decide⟩ (by decide +kernel)
theorem rec_X2_length_B {tl : List ZE} : z_rec (z_shC tl) wp_X2_length_B 0 := by
  intro as S post h
  unfold wp_X2_length_B at h
  split at h
  · exact ⟨_, _, _, rfl, rfl⟩
  · exact h.elim
set_option maxHeartbeats 4000000 in
set_option maxRecDepth 20000 in
theorem pu_X2_length_K {tl : List ZE} : z_Pure cX2_length 1 (z_shC tl) z_fX2 cs_X2_length z_kcX2 z_klX2 (some .int) 0 wp_X2_length_K := by
  intro as S post h
  unfold wp_X2_length_K at h
  split at h
  · skip
    refine ⟨Nat.le_of_ble_eq_true rfl, fun K hK => ?_⟩
    change K 0 0 [some (.ref 7)] [] S
    refine hK (z_in []) 60 _ _ _ _ _ (Nat.zero_le _) ?_
    simp (config := { maxSteps := 10000000 }) only [z10, z01, zm0, z0m, ze_s, ze_ok, zt_s, zt_t, zt_f, zl_I, zl_J, zl_R, zl_N, zl_C, zl_K, zl_M, zl_ar0, zl_ar1, zl_ar2, zl_ar3, zl_as0, zl_as1, zl_as2, zl_al, zl_gf, zl_gr, zl_pf, zl_iv, zl_ivn, zk_s, z_in_n, z_in_c, z_gt_0, z_gt_s, zst_0, zst_1, zst_s, zsl_0, zsl_1, zsl_s, zc_n, zc_i, zc_l, zc_r, zc_u, zca_n, zca_i, zca_l, zca_r, zca_u, zrt_i, zrt_z, zrt_o, z_cal_0, z_cal_s, true_and, and_true, List.nil_append, List.cons_append, Option.toList_some, Option.toList_none, Nat.reduceAdd, Nat.reduceBEq, Nat.reduceLT, Nat.reduceLeDiff, Nat.reduceSub, Int.reduceAdd, Int.reduceLE, Int.reduceToNat, Int.cast_ofNat_Int, Bool.or_true, Bool.true_or, Bool.or_false, Bool.false_or, Nat.le_refl, Nat.zero_le, or_true, true_or, or_false, false_or, not_true_eq_false, not_false_eq_true, false_implies, true_implies, eq_self, zo_iconst, zo_bipush, zo_sipush, zo_lconst, zo_ldc, zo_ldc_w, zo_ldc2_w, zo_iload_n, zo_iload, zo_lload_n, zo_lload, zo_aload_n, zo_aload, zo_istore_n, zo_istore, zo_lstore_n, zo_lstore, zo_astore_n, zo_astore, zo_iinc, zo_iadd, zo_isub, zo_imul, zo_iand, zo_ior, zo_ixor, zo_ishl, zo_ishr, zo_iushr, zo_idiv, zo_irem, zo_ladd, zo_lsub, zo_lmul, zo_ldiv, zo_lrem, zo_lcmp, zo_i2l, zo_i2b, zo_i2s, zo_dup, zo_dup2, zo_aconst_null, zo_if_icmp, zo_ifCond, zo_goto, zo_ifnull, zo_ifnonnull, zo_iaload, zo_baload, zo_laload, zo_aaload, zo_iastore, zo_bastore, zo_lastore, zo_arraylength, zo_getfield, zo_putfield, zo_tableswitch, zo_lookupswitch, zo_ireturn, zo_lreturn, zo_areturn, zo_return, zo_invokestatic, zo_invokevirtual, zo_new, zo_invokespecial, zo_newarray, zo_anewarray, zo_aastore, zq_iconst, zq_bipush, zq_sipush, zq_lconst0, zq_lconst1, zq_ldc, zq_ldc_w, zq_ldc2_w, zq_iload0, zq_iload1, zq_iload2, zq_iload3, zq_iload, zq_lload0, zq_lload1, zq_lload2, zq_lload3, zq_lload, zq_aload0, zq_aload1, zq_aload2, zq_aload3, zq_aload, zq_istore0, zq_istore1, zq_istore2, zq_istore3, zq_istore, zq_lstore0, zq_lstore1, zq_lstore2, zq_lstore3, zq_lstore, zq_astore0, zq_astore0N, zq_astore1, zq_astore1N, zq_astore2, zq_astore2N, zq_astore3, zq_astore3N, zq_astore, zq_astoreN, zq_iinc, zq_iadd, zq_isub, zq_imul, zq_iand, zq_ior, zq_ixor, zq_ishl, zq_ishr, zq_iushr, zq_idiv, zq_irem, zq_ladd, zq_lsub, zq_lmul, zq_ldiv, zq_lrem, zq_lcmp, zq_i2l, zq_i2b, zq_i2s, zq_dup_i, zq_dup_r, zq_dup2, zq_null, zq_icmp_eq, zq_if_eq, zq_icmp_ne, zq_if_ne, zq_icmp_lt, zq_if_lt, zq_icmp_ge, zq_if_ge, zq_icmp_gt, zq_if_gt, zq_icmp_le, zq_if_le, zq_goto, zq_ifnull_r, zq_ifnull_n, zq_ifnonnull_r, zq_ifnonnull_n, zq_iaload, zq_baload, zq_laload, zq_aaload, zq_iastore, zq_bastore, zq_lastore, zq_alen, zq_getf, zq_put, zq_tsw, zq_lsw, zq_ireturn, zq_lreturn, zq_areturn, zq_areturnN, zq_return, zq_invokestatic, zq_invokevirtual, zq_new, zq_invokespecial, zq_newarray, zq_anewarray, zq_aastore, zi_m1, zi_0, zi_1, zi_2, zi_3, zi_4, zi_5, zi_6, zi_8, zi_16, zb_m10, zb_m4, zb_m3, zb_m2, zb_6, zb_7, zb_8, zb_9, zb_10, zb_16, zb_20, zb_23, zb_30, zb_32, zb_35, zb_46, zb_48, zb_56, zb_57, zb_59, zb_63, zb_70, zb_98, zb_99, zb_100, zb_111, zb_112, zs_192, zs_255, zs_256, zs_511, zs_512, zs_12345, zf_X2_21_1, zf_X2_21_7, zf_X2_9_1, zf_X2_9_7, zf_X2_15_1, zf_X2_15_7, zf_X2_18_1, zf_X2_18_7, za_C_2, za_C_3, za_C_4, za_C_5, za_C_6, za_C_8, za_C_9, za_C_10, za_C_12, za_C_14, za_C_15, za_C_16, za_C_17, za_C_22, za_C_23, za_C_24, za_C_25, dX2_length_0, dX2_length_1, dX2_length_4]
    exact h
  · exact h.elim
theorem ok_X2_length_K {tl : List ZE} : z_Ok (z_shC tl) yX2_length cX2_length 1 (some .int) ({ frames := 0, cells := 0, slots := 0, locals := 0 } : Room) 0 wp_X2_length_K := z_Ok_of pu_X2_length_K z_fX2_ok z_kX2_ok co_X2_length ⟨by decide, by decide⟩ (by decide +kernel)
theorem rec_X2_length_K {tl : List ZE} : z_rec (z_shC tl) wp_X2_length_K 2 := by
  intro as S post h
  unfold wp_X2_length_K at h
  split at h
  · exact ⟨_, _, _, rfl, rfl⟩
  · exact h.elim
def wp_X2_faultPlace_B : ZW := fun as S k => match as with
  | [.ref 1] => k (some (.int (S.1 1 2))) S
  | _ => False
theorem wr_X2_faultPlace_B {S : ZS} {k : Option Value → ZS → Prop} : wp_X2_faultPlace_B [.ref 1] S k = (k (some (.int (S.1 1 2))) S) := rfl
def wp_X2_faultPlace_K : ZW := fun as S k => match as with
  | [.ref 7] => k (some (.int (S.1 7 2))) S
  | _ => False
theorem wr_X2_faultPlace_K {S : ZS} {k : Option Value → ZS → Prop} : wp_X2_faultPlace_K [.ref 7] S k = (k (some (.int (S.1 7 2))) S) := rfl
def cs_X2_faultPlace : List (Nat × ZC) := []
set_option maxRecDepth 20000 in
theorem co_X2_faultPlace {tl : List ZE} : z_csok RX2 ({ frames := 0, cells := 0, slots := 0, locals := 0 } : Room) (z_shC tl) cs_X2_faultPlace := z_cs0
set_option maxHeartbeats 4000000 in
set_option maxRecDepth 20000 in
theorem pu_X2_faultPlace_B {tl : List ZE} : z_Pure cX2_faultPlace 1 (z_shC tl) z_fX2 cs_X2_faultPlace z_kcX2 z_klX2 (some .int) 0 wp_X2_faultPlace_B := by
  intro as S post h
  unfold wp_X2_faultPlace_B at h
  split at h
  · skip
    refine ⟨Nat.le_of_ble_eq_true rfl, fun K hK => ?_⟩
    change K 0 0 [some (.ref 1)] [] S
    refine hK (z_in []) 60 _ _ _ _ _ (Nat.zero_le _) ?_
    simp (config := { maxSteps := 10000000 }) only [z10, z01, zm0, z0m, ze_s, ze_ok, zt_s, zt_t, zt_f, zl_I, zl_J, zl_R, zl_N, zl_C, zl_K, zl_M, zl_ar0, zl_ar1, zl_ar2, zl_ar3, zl_as0, zl_as1, zl_as2, zl_al, zl_gf, zl_gr, zl_pf, zl_iv, zl_ivn, zk_s, z_in_n, z_in_c, z_gt_0, z_gt_s, zst_0, zst_1, zst_s, zsl_0, zsl_1, zsl_s, zc_n, zc_i, zc_l, zc_r, zc_u, zca_n, zca_i, zca_l, zca_r, zca_u, zrt_i, zrt_z, zrt_o, z_cal_0, z_cal_s, true_and, and_true, List.nil_append, List.cons_append, Option.toList_some, Option.toList_none, Nat.reduceAdd, Nat.reduceBEq, Nat.reduceLT, Nat.reduceLeDiff, Nat.reduceSub, Int.reduceAdd, Int.reduceLE, Int.reduceToNat, Int.cast_ofNat_Int, Bool.or_true, Bool.true_or, Bool.or_false, Bool.false_or, Nat.le_refl, Nat.zero_le, or_true, true_or, or_false, false_or, not_true_eq_false, not_false_eq_true, false_implies, true_implies, eq_self, zo_iconst, zo_bipush, zo_sipush, zo_lconst, zo_ldc, zo_ldc_w, zo_ldc2_w, zo_iload_n, zo_iload, zo_lload_n, zo_lload, zo_aload_n, zo_aload, zo_istore_n, zo_istore, zo_lstore_n, zo_lstore, zo_astore_n, zo_astore, zo_iinc, zo_iadd, zo_isub, zo_imul, zo_iand, zo_ior, zo_ixor, zo_ishl, zo_ishr, zo_iushr, zo_idiv, zo_irem, zo_ladd, zo_lsub, zo_lmul, zo_ldiv, zo_lrem, zo_lcmp, zo_i2l, zo_i2b, zo_i2s, zo_dup, zo_dup2, zo_aconst_null, zo_if_icmp, zo_ifCond, zo_goto, zo_ifnull, zo_ifnonnull, zo_iaload, zo_baload, zo_laload, zo_aaload, zo_iastore, zo_bastore, zo_lastore, zo_arraylength, zo_getfield, zo_putfield, zo_tableswitch, zo_lookupswitch, zo_ireturn, zo_lreturn, zo_areturn, zo_return, zo_invokestatic, zo_invokevirtual, zo_new, zo_invokespecial, zo_newarray, zo_anewarray, zo_aastore, zq_iconst, zq_bipush, zq_sipush, zq_lconst0, zq_lconst1, zq_ldc, zq_ldc_w, zq_ldc2_w, zq_iload0, zq_iload1, zq_iload2, zq_iload3, zq_iload, zq_lload0, zq_lload1, zq_lload2, zq_lload3, zq_lload, zq_aload0, zq_aload1, zq_aload2, zq_aload3, zq_aload, zq_istore0, zq_istore1, zq_istore2, zq_istore3, zq_istore, zq_lstore0, zq_lstore1, zq_lstore2, zq_lstore3, zq_lstore, zq_astore0, zq_astore0N, zq_astore1, zq_astore1N, zq_astore2, zq_astore2N, zq_astore3, zq_astore3N, zq_astore, zq_astoreN, zq_iinc, zq_iadd, zq_isub, zq_imul, zq_iand, zq_ior, zq_ixor, zq_ishl, zq_ishr, zq_iushr, zq_idiv, zq_irem, zq_ladd, zq_lsub, zq_lmul, zq_ldiv, zq_lrem, zq_lcmp, zq_i2l, zq_i2b, zq_i2s, zq_dup_i, zq_dup_r, zq_dup2, zq_null, zq_icmp_eq, zq_if_eq, zq_icmp_ne, zq_if_ne, zq_icmp_lt, zq_if_lt, zq_icmp_ge, zq_if_ge, zq_icmp_gt, zq_if_gt, zq_icmp_le, zq_if_le, zq_goto, zq_ifnull_r, zq_ifnull_n, zq_ifnonnull_r, zq_ifnonnull_n, zq_iaload, zq_baload, zq_laload, zq_aaload, zq_iastore, zq_bastore, zq_lastore, zq_alen, zq_getf, zq_put, zq_tsw, zq_lsw, zq_ireturn, zq_lreturn, zq_areturn, zq_areturnN, zq_return, zq_invokestatic, zq_invokevirtual, zq_new, zq_invokespecial, zq_newarray, zq_anewarray, zq_aastore, zi_m1, zi_0, zi_1, zi_2, zi_3, zi_4, zi_5, zi_6, zi_8, zi_16, zb_m10, zb_m4, zb_m3, zb_m2, zb_6, zb_7, zb_8, zb_9, zb_10, zb_16, zb_20, zb_23, zb_30, zb_32, zb_35, zb_46, zb_48, zb_56, zb_57, zb_59, zb_63, zb_70, zb_98, zb_99, zb_100, zb_111, zb_112, zs_192, zs_255, zs_256, zs_511, zs_512, zs_12345, zf_X2_21_1, zf_X2_21_7, zf_X2_9_1, zf_X2_9_7, zf_X2_15_1, zf_X2_15_7, zf_X2_18_1, zf_X2_18_7, za_C_2, za_C_3, za_C_4, za_C_5, za_C_6, za_C_8, za_C_9, za_C_10, za_C_12, za_C_14, za_C_15, za_C_16, za_C_17, za_C_22, za_C_23, za_C_24, za_C_25, dX2_faultPlace_0, dX2_faultPlace_1, dX2_faultPlace_4]
    exact h
  · exact h.elim
theorem ok_X2_faultPlace_B {tl : List ZE} : z_Ok (z_shC tl) yX2_faultPlace cX2_faultPlace 1 (some .int) ({ frames := 0, cells := 0, slots := 0, locals := 0 } : Room) 0 wp_X2_faultPlace_B := z_Ok_of pu_X2_faultPlace_B z_fX2_ok z_kX2_ok co_X2_faultPlace ⟨by decide, by decide⟩ (by decide +kernel)
theorem rec_X2_faultPlace_B {tl : List ZE} : z_rec (z_shC tl) wp_X2_faultPlace_B 0 := by
  intro as S post h
  unfold wp_X2_faultPlace_B at h
  split at h
  · exact ⟨_, _, _, rfl, rfl⟩
  · exact h.elim
set_option maxHeartbeats 4000000 in
set_option maxRecDepth 20000 in
theorem pu_X2_faultPlace_K {tl : List ZE} : z_Pure cX2_faultPlace 1 (z_shC tl) z_fX2 cs_X2_faultPlace z_kcX2 z_klX2 (some .int) 0 wp_X2_faultPlace_K := by
  intro as S post h
  unfold wp_X2_faultPlace_K at h
  split at h
  · skip
    refine ⟨Nat.le_of_ble_eq_true rfl, fun K hK => ?_⟩
    change K 0 0 [some (.ref 7)] [] S
    refine hK (z_in []) 60 _ _ _ _ _ (Nat.zero_le _) ?_
    simp (config := { maxSteps := 10000000 }) only [z10, z01, zm0, z0m, ze_s, ze_ok, zt_s, zt_t, zt_f, zl_I, zl_J, zl_R, zl_N, zl_C, zl_K, zl_M, zl_ar0, zl_ar1, zl_ar2, zl_ar3, zl_as0, zl_as1, zl_as2, zl_al, zl_gf, zl_gr, zl_pf, zl_iv, zl_ivn, zk_s, z_in_n, z_in_c, z_gt_0, z_gt_s, zst_0, zst_1, zst_s, zsl_0, zsl_1, zsl_s, zc_n, zc_i, zc_l, zc_r, zc_u, zca_n, zca_i, zca_l, zca_r, zca_u, zrt_i, zrt_z, zrt_o, z_cal_0, z_cal_s, true_and, and_true, List.nil_append, List.cons_append, Option.toList_some, Option.toList_none, Nat.reduceAdd, Nat.reduceBEq, Nat.reduceLT, Nat.reduceLeDiff, Nat.reduceSub, Int.reduceAdd, Int.reduceLE, Int.reduceToNat, Int.cast_ofNat_Int, Bool.or_true, Bool.true_or, Bool.or_false, Bool.false_or, Nat.le_refl, Nat.zero_le, or_true, true_or, or_false, false_or, not_true_eq_false, not_false_eq_true, false_implies, true_implies, eq_self, zo_iconst, zo_bipush, zo_sipush, zo_lconst, zo_ldc, zo_ldc_w, zo_ldc2_w, zo_iload_n, zo_iload, zo_lload_n, zo_lload, zo_aload_n, zo_aload, zo_istore_n, zo_istore, zo_lstore_n, zo_lstore, zo_astore_n, zo_astore, zo_iinc, zo_iadd, zo_isub, zo_imul, zo_iand, zo_ior, zo_ixor, zo_ishl, zo_ishr, zo_iushr, zo_idiv, zo_irem, zo_ladd, zo_lsub, zo_lmul, zo_ldiv, zo_lrem, zo_lcmp, zo_i2l, zo_i2b, zo_i2s, zo_dup, zo_dup2, zo_aconst_null, zo_if_icmp, zo_ifCond, zo_goto, zo_ifnull, zo_ifnonnull, zo_iaload, zo_baload, zo_laload, zo_aaload, zo_iastore, zo_bastore, zo_lastore, zo_arraylength, zo_getfield, zo_putfield, zo_tableswitch, zo_lookupswitch, zo_ireturn, zo_lreturn, zo_areturn, zo_return, zo_invokestatic, zo_invokevirtual, zo_new, zo_invokespecial, zo_newarray, zo_anewarray, zo_aastore, zq_iconst, zq_bipush, zq_sipush, zq_lconst0, zq_lconst1, zq_ldc, zq_ldc_w, zq_ldc2_w, zq_iload0, zq_iload1, zq_iload2, zq_iload3, zq_iload, zq_lload0, zq_lload1, zq_lload2, zq_lload3, zq_lload, zq_aload0, zq_aload1, zq_aload2, zq_aload3, zq_aload, zq_istore0, zq_istore1, zq_istore2, zq_istore3, zq_istore, zq_lstore0, zq_lstore1, zq_lstore2, zq_lstore3, zq_lstore, zq_astore0, zq_astore0N, zq_astore1, zq_astore1N, zq_astore2, zq_astore2N, zq_astore3, zq_astore3N, zq_astore, zq_astoreN, zq_iinc, zq_iadd, zq_isub, zq_imul, zq_iand, zq_ior, zq_ixor, zq_ishl, zq_ishr, zq_iushr, zq_idiv, zq_irem, zq_ladd, zq_lsub, zq_lmul, zq_ldiv, zq_lrem, zq_lcmp, zq_i2l, zq_i2b, zq_i2s, zq_dup_i, zq_dup_r, zq_dup2, zq_null, zq_icmp_eq, zq_if_eq, zq_icmp_ne, zq_if_ne, zq_icmp_lt, zq_if_lt, zq_icmp_ge, zq_if_ge, zq_icmp_gt, zq_if_gt, zq_icmp_le, zq_if_le, zq_goto, zq_ifnull_r, zq_ifnull_n, zq_ifnonnull_r, zq_ifnonnull_n, zq_iaload, zq_baload, zq_laload, zq_aaload, zq_iastore, zq_bastore, zq_lastore, zq_alen, zq_getf, zq_put, zq_tsw, zq_lsw, zq_ireturn, zq_lreturn, zq_areturn, zq_areturnN, zq_return, zq_invokestatic, zq_invokevirtual, zq_new, zq_invokespecial, zq_newarray, zq_anewarray, zq_aastore, zi_m1, zi_0, zi_1, zi_2, zi_3, zi_4, zi_5, zi_6, zi_8, zi_16, zb_m10, zb_m4, zb_m3, zb_m2, zb_6, zb_7, zb_8, zb_9, zb_10, zb_16, zb_20, zb_23, zb_30, zb_32, zb_35, zb_46, zb_48, zb_56, zb_57, zb_59, zb_63, zb_70, zb_98, zb_99, zb_100, zb_111, zb_112, zs_192, zs_255, zs_256, zs_511, zs_512, zs_12345, zf_X2_21_1, zf_X2_21_7, zf_X2_9_1, zf_X2_9_7, zf_X2_15_1, zf_X2_15_7, zf_X2_18_1, zf_X2_18_7, za_C_2, za_C_3, za_C_4, za_C_5, za_C_6, za_C_8, za_C_9, za_C_10, za_C_12, za_C_14, za_C_15, za_C_16, za_C_17, za_C_22, za_C_23, za_C_24, za_C_25, dX2_faultPlace_0, dX2_faultPlace_1, dX2_faultPlace_4]
    exact h
  · exact h.elim
theorem ok_X2_faultPlace_K {tl : List ZE} : z_Ok (z_shC tl) yX2_faultPlace cX2_faultPlace 1 (some .int) ({ frames := 0, cells := 0, slots := 0, locals := 0 } : Room) 0 wp_X2_faultPlace_K := z_Ok_of pu_X2_faultPlace_K z_fX2_ok z_kX2_ok co_X2_faultPlace ⟨by decide, by decide⟩ (by decide +kernel)
theorem rec_X2_faultPlace_K {tl : List ZE} : z_rec (z_shC tl) wp_X2_faultPlace_K 2 := by
  intro as S post h
  unfold wp_X2_faultPlace_K at h
  split at h
  · exact ⟨_, _, _, rfl, rfl⟩
  · exact h.elim
def wp_X2_number_B : ZW := fun as S k => match as with
  | [.ref 1] => k (some (.int (S.1 1 3))) S
  | _ => False
theorem wr_X2_number_B {S : ZS} {k : Option Value → ZS → Prop} : wp_X2_number_B [.ref 1] S k = (k (some (.int (S.1 1 3))) S) := rfl
def wp_X2_number_K : ZW := fun as S k => match as with
  | [.ref 7] => k (some (.int (S.1 7 3))) S
  | _ => False
theorem wr_X2_number_K {S : ZS} {k : Option Value → ZS → Prop} : wp_X2_number_K [.ref 7] S k = (k (some (.int (S.1 7 3))) S) := rfl
def cs_X2_number : List (Nat × ZC) := []
set_option maxRecDepth 20000 in
theorem co_X2_number {tl : List ZE} : z_csok RX2 ({ frames := 0, cells := 0, slots := 0, locals := 0 } : Room) (z_shC tl) cs_X2_number := z_cs0
set_option maxHeartbeats 4000000 in
set_option maxRecDepth 20000 in
theorem pu_X2_number_B {tl : List ZE} : z_Pure cX2_number 1 (z_shC tl) z_fX2 cs_X2_number z_kcX2 z_klX2 (some .int) 0 wp_X2_number_B := by
  intro as S post h
  unfold wp_X2_number_B at h
  split at h
  · skip
    refine ⟨Nat.le_of_ble_eq_true rfl, fun K hK => ?_⟩
    change K 0 0 [some (.ref 1)] [] S
    refine hK (z_in []) 60 _ _ _ _ _ (Nat.zero_le _) ?_
    simp (config := { maxSteps := 10000000 }) only [z10, z01, zm0, z0m, ze_s, ze_ok, zt_s, zt_t, zt_f, zl_I, zl_J, zl_R, zl_N, zl_C, zl_K, zl_M, zl_ar0, zl_ar1, zl_ar2, zl_ar3, zl_as0, zl_as1, zl_as2, zl_al, zl_gf, zl_gr, zl_pf, zl_iv, zl_ivn, zk_s, z_in_n, z_in_c, z_gt_0, z_gt_s, zst_0, zst_1, zst_s, zsl_0, zsl_1, zsl_s, zc_n, zc_i, zc_l, zc_r, zc_u, zca_n, zca_i, zca_l, zca_r, zca_u, zrt_i, zrt_z, zrt_o, z_cal_0, z_cal_s, true_and, and_true, List.nil_append, List.cons_append, Option.toList_some, Option.toList_none, Nat.reduceAdd, Nat.reduceBEq, Nat.reduceLT, Nat.reduceLeDiff, Nat.reduceSub, Int.reduceAdd, Int.reduceLE, Int.reduceToNat, Int.cast_ofNat_Int, Bool.or_true, Bool.true_or, Bool.or_false, Bool.false_or, Nat.le_refl, Nat.zero_le, or_true, true_or, or_false, false_or, not_true_eq_false, not_false_eq_true, false_implies, true_implies, eq_self, zo_iconst, zo_bipush, zo_sipush, zo_lconst, zo_ldc, zo_ldc_w, zo_ldc2_w, zo_iload_n, zo_iload, zo_lload_n, zo_lload, zo_aload_n, zo_aload, zo_istore_n, zo_istore, zo_lstore_n, zo_lstore, zo_astore_n, zo_astore, zo_iinc, zo_iadd, zo_isub, zo_imul, zo_iand, zo_ior, zo_ixor, zo_ishl, zo_ishr, zo_iushr, zo_idiv, zo_irem, zo_ladd, zo_lsub, zo_lmul, zo_ldiv, zo_lrem, zo_lcmp, zo_i2l, zo_i2b, zo_i2s, zo_dup, zo_dup2, zo_aconst_null, zo_if_icmp, zo_ifCond, zo_goto, zo_ifnull, zo_ifnonnull, zo_iaload, zo_baload, zo_laload, zo_aaload, zo_iastore, zo_bastore, zo_lastore, zo_arraylength, zo_getfield, zo_putfield, zo_tableswitch, zo_lookupswitch, zo_ireturn, zo_lreturn, zo_areturn, zo_return, zo_invokestatic, zo_invokevirtual, zo_new, zo_invokespecial, zo_newarray, zo_anewarray, zo_aastore, zq_iconst, zq_bipush, zq_sipush, zq_lconst0, zq_lconst1, zq_ldc, zq_ldc_w, zq_ldc2_w, zq_iload0, zq_iload1, zq_iload2, zq_iload3, zq_iload, zq_lload0, zq_lload1, zq_lload2, zq_lload3, zq_lload, zq_aload0, zq_aload1, zq_aload2, zq_aload3, zq_aload, zq_istore0, zq_istore1, zq_istore2, zq_istore3, zq_istore, zq_lstore0, zq_lstore1, zq_lstore2, zq_lstore3, zq_lstore, zq_astore0, zq_astore0N, zq_astore1, zq_astore1N, zq_astore2, zq_astore2N, zq_astore3, zq_astore3N, zq_astore, zq_astoreN, zq_iinc, zq_iadd, zq_isub, zq_imul, zq_iand, zq_ior, zq_ixor, zq_ishl, zq_ishr, zq_iushr, zq_idiv, zq_irem, zq_ladd, zq_lsub, zq_lmul, zq_ldiv, zq_lrem, zq_lcmp, zq_i2l, zq_i2b, zq_i2s, zq_dup_i, zq_dup_r, zq_dup2, zq_null, zq_icmp_eq, zq_if_eq, zq_icmp_ne, zq_if_ne, zq_icmp_lt, zq_if_lt, zq_icmp_ge, zq_if_ge, zq_icmp_gt, zq_if_gt, zq_icmp_le, zq_if_le, zq_goto, zq_ifnull_r, zq_ifnull_n, zq_ifnonnull_r, zq_ifnonnull_n, zq_iaload, zq_baload, zq_laload, zq_aaload, zq_iastore, zq_bastore, zq_lastore, zq_alen, zq_getf, zq_put, zq_tsw, zq_lsw, zq_ireturn, zq_lreturn, zq_areturn, zq_areturnN, zq_return, zq_invokestatic, zq_invokevirtual, zq_new, zq_invokespecial, zq_newarray, zq_anewarray, zq_aastore, zi_m1, zi_0, zi_1, zi_2, zi_3, zi_4, zi_5, zi_6, zi_8, zi_16, zb_m10, zb_m4, zb_m3, zb_m2, zb_6, zb_7, zb_8, zb_9, zb_10, zb_16, zb_20, zb_23, zb_30, zb_32, zb_35, zb_46, zb_48, zb_56, zb_57, zb_59, zb_63, zb_70, zb_98, zb_99, zb_100, zb_111, zb_112, zs_192, zs_255, zs_256, zs_511, zs_512, zs_12345, zf_X2_21_1, zf_X2_21_7, zf_X2_9_1, zf_X2_9_7, zf_X2_15_1, zf_X2_15_7, zf_X2_18_1, zf_X2_18_7, za_C_2, za_C_3, za_C_4, za_C_5, za_C_6, za_C_8, za_C_9, za_C_10, za_C_12, za_C_14, za_C_15, za_C_16, za_C_17, za_C_22, za_C_23, za_C_24, za_C_25, dX2_number_0, dX2_number_1, dX2_number_4]
    exact h
  · exact h.elim
theorem ok_X2_number_B {tl : List ZE} : z_Ok (z_shC tl) yX2_number cX2_number 1 (some .int) ({ frames := 0, cells := 0, slots := 0, locals := 0 } : Room) 0 wp_X2_number_B := z_Ok_of pu_X2_number_B z_fX2_ok z_kX2_ok co_X2_number ⟨by decide, by decide⟩ (by decide +kernel)
theorem rec_X2_number_B {tl : List ZE} : z_rec (z_shC tl) wp_X2_number_B 0 := by
  intro as S post h
  unfold wp_X2_number_B at h
  split at h
  · exact ⟨_, _, _, rfl, rfl⟩
  · exact h.elim
set_option maxHeartbeats 4000000 in
set_option maxRecDepth 20000 in
theorem pu_X2_number_K {tl : List ZE} : z_Pure cX2_number 1 (z_shC tl) z_fX2 cs_X2_number z_kcX2 z_klX2 (some .int) 0 wp_X2_number_K := by
  intro as S post h
  unfold wp_X2_number_K at h
  split at h
  · skip
    refine ⟨Nat.le_of_ble_eq_true rfl, fun K hK => ?_⟩
    change K 0 0 [some (.ref 7)] [] S
    refine hK (z_in []) 60 _ _ _ _ _ (Nat.zero_le _) ?_
    simp (config := { maxSteps := 10000000 }) only [z10, z01, zm0, z0m, ze_s, ze_ok, zt_s, zt_t, zt_f, zl_I, zl_J, zl_R, zl_N, zl_C, zl_K, zl_M, zl_ar0, zl_ar1, zl_ar2, zl_ar3, zl_as0, zl_as1, zl_as2, zl_al, zl_gf, zl_gr, zl_pf, zl_iv, zl_ivn, zk_s, z_in_n, z_in_c, z_gt_0, z_gt_s, zst_0, zst_1, zst_s, zsl_0, zsl_1, zsl_s, zc_n, zc_i, zc_l, zc_r, zc_u, zca_n, zca_i, zca_l, zca_r, zca_u, zrt_i, zrt_z, zrt_o, z_cal_0, z_cal_s, true_and, and_true, List.nil_append, List.cons_append, Option.toList_some, Option.toList_none, Nat.reduceAdd, Nat.reduceBEq, Nat.reduceLT, Nat.reduceLeDiff, Nat.reduceSub, Int.reduceAdd, Int.reduceLE, Int.reduceToNat, Int.cast_ofNat_Int, Bool.or_true, Bool.true_or, Bool.or_false, Bool.false_or, Nat.le_refl, Nat.zero_le, or_true, true_or, or_false, false_or, not_true_eq_false, not_false_eq_true, false_implies, true_implies, eq_self, zo_iconst, zo_bipush, zo_sipush, zo_lconst, zo_ldc, zo_ldc_w, zo_ldc2_w, zo_iload_n, zo_iload, zo_lload_n, zo_lload, zo_aload_n, zo_aload, zo_istore_n, zo_istore, zo_lstore_n, zo_lstore, zo_astore_n, zo_astore, zo_iinc, zo_iadd, zo_isub, zo_imul, zo_iand, zo_ior, zo_ixor, zo_ishl, zo_ishr, zo_iushr, zo_idiv, zo_irem, zo_ladd, zo_lsub, zo_lmul, zo_ldiv, zo_lrem, zo_lcmp, zo_i2l, zo_i2b, zo_i2s, zo_dup, zo_dup2, zo_aconst_null, zo_if_icmp, zo_ifCond, zo_goto, zo_ifnull, zo_ifnonnull, zo_iaload, zo_baload, zo_laload, zo_aaload, zo_iastore, zo_bastore, zo_lastore, zo_arraylength, zo_getfield, zo_putfield, zo_tableswitch, zo_lookupswitch, zo_ireturn, zo_lreturn, zo_areturn, zo_return, zo_invokestatic, zo_invokevirtual, zo_new, zo_invokespecial, zo_newarray, zo_anewarray, zo_aastore, zq_iconst, zq_bipush, zq_sipush, zq_lconst0, zq_lconst1, zq_ldc, zq_ldc_w, zq_ldc2_w, zq_iload0, zq_iload1, zq_iload2, zq_iload3, zq_iload, zq_lload0, zq_lload1, zq_lload2, zq_lload3, zq_lload, zq_aload0, zq_aload1, zq_aload2, zq_aload3, zq_aload, zq_istore0, zq_istore1, zq_istore2, zq_istore3, zq_istore, zq_lstore0, zq_lstore1, zq_lstore2, zq_lstore3, zq_lstore, zq_astore0, zq_astore0N, zq_astore1, zq_astore1N, zq_astore2, zq_astore2N, zq_astore3, zq_astore3N, zq_astore, zq_astoreN, zq_iinc, zq_iadd, zq_isub, zq_imul, zq_iand, zq_ior, zq_ixor, zq_ishl, zq_ishr, zq_iushr, zq_idiv, zq_irem, zq_ladd, zq_lsub, zq_lmul, zq_ldiv, zq_lrem, zq_lcmp, zq_i2l, zq_i2b, zq_i2s, zq_dup_i, zq_dup_r, zq_dup2, zq_null, zq_icmp_eq, zq_if_eq, zq_icmp_ne, zq_if_ne, zq_icmp_lt, zq_if_lt, zq_icmp_ge, zq_if_ge, zq_icmp_gt, zq_if_gt, zq_icmp_le, zq_if_le, zq_goto, zq_ifnull_r, zq_ifnull_n, zq_ifnonnull_r, zq_ifnonnull_n, zq_iaload, zq_baload, zq_laload, zq_aaload, zq_iastore, zq_bastore, zq_lastore, zq_alen, zq_getf, zq_put, zq_tsw, zq_lsw, zq_ireturn, zq_lreturn, zq_areturn, zq_areturnN, zq_return, zq_invokestatic, zq_invokevirtual, zq_new, zq_invokespecial, zq_newarray, zq_anewarray, zq_aastore, zi_m1, zi_0, zi_1, zi_2, zi_3, zi_4, zi_5, zi_6, zi_8, zi_16, zb_m10, zb_m4, zb_m3, zb_m2, zb_6, zb_7, zb_8, zb_9, zb_10, zb_16, zb_20, zb_23, zb_30, zb_32, zb_35, zb_46, zb_48, zb_56, zb_57, zb_59, zb_63, zb_70, zb_98, zb_99, zb_100, zb_111, zb_112, zs_192, zs_255, zs_256, zs_511, zs_512, zs_12345, zf_X2_21_1, zf_X2_21_7, zf_X2_9_1, zf_X2_9_7, zf_X2_15_1, zf_X2_15_7, zf_X2_18_1, zf_X2_18_7, za_C_2, za_C_3, za_C_4, za_C_5, za_C_6, za_C_8, za_C_9, za_C_10, za_C_12, za_C_14, za_C_15, za_C_16, za_C_17, za_C_22, za_C_23, za_C_24, za_C_25, dX2_number_0, dX2_number_1, dX2_number_4]
    exact h
  · exact h.elim
theorem ok_X2_number_K {tl : List ZE} : z_Ok (z_shC tl) yX2_number cX2_number 1 (some .int) ({ frames := 0, cells := 0, slots := 0, locals := 0 } : Room) 0 wp_X2_number_K := z_Ok_of pu_X2_number_K z_fX2_ok z_kX2_ok co_X2_number ⟨by decide, by decide⟩ (by decide +kernel)
theorem rec_X2_number_K {tl : List ZE} : z_rec (z_shC tl) wp_X2_number_K 2 := by
  intro as S post h
  unfold wp_X2_number_K at h
  split at h
  · exact ⟨_, _, _, rfl, rfl⟩
  · exact h.elim
def wp_X2_every_B : ZW := fun as S k => match as with
  | [.ref 1] => k (some (.int (1 <<< (S.1 1 3 &&& 31) - 1))) S
  | _ => False
theorem wr_X2_every_B {S : ZS} {k : Option Value → ZS → Prop} : wp_X2_every_B [.ref 1] S k = (k (some (.int (1 <<< (S.1 1 3 &&& 31) - 1))) S) := rfl
def cs_X2_every : List (Nat × ZC) := []
set_option maxRecDepth 20000 in
theorem co_X2_every {tl : List ZE} : z_csok RX2 ({ frames := 0, cells := 0, slots := 0, locals := 0 } : Room) (z_shC tl) cs_X2_every := z_cs0
set_option maxHeartbeats 4000000 in
set_option maxRecDepth 20000 in
theorem pu_X2_every_B {tl : List ZE} : z_Pure cX2_every 1 (z_shC tl) z_fX2 cs_X2_every z_kcX2 z_klX2 (some .int) 0 wp_X2_every_B := by
  intro as S post h
  unfold wp_X2_every_B at h
  split at h
  · skip
    refine ⟨Nat.le_of_ble_eq_true rfl, fun K hK => ?_⟩
    change K 0 0 [some (.ref 1)] [] S
    refine hK (z_in []) 60 _ _ _ _ _ (Nat.zero_le _) ?_
    simp (config := { maxSteps := 10000000 }) only [z10, z01, zm0, z0m, ze_s, ze_ok, zt_s, zt_t, zt_f, zl_I, zl_J, zl_R, zl_N, zl_C, zl_K, zl_M, zl_ar0, zl_ar1, zl_ar2, zl_ar3, zl_as0, zl_as1, zl_as2, zl_al, zl_gf, zl_gr, zl_pf, zl_iv, zl_ivn, zk_s, z_in_n, z_in_c, z_gt_0, z_gt_s, zst_0, zst_1, zst_s, zsl_0, zsl_1, zsl_s, zc_n, zc_i, zc_l, zc_r, zc_u, zca_n, zca_i, zca_l, zca_r, zca_u, zrt_i, zrt_z, zrt_o, z_cal_0, z_cal_s, true_and, and_true, List.nil_append, List.cons_append, Option.toList_some, Option.toList_none, Nat.reduceAdd, Nat.reduceBEq, Nat.reduceLT, Nat.reduceLeDiff, Nat.reduceSub, Int.reduceAdd, Int.reduceLE, Int.reduceToNat, Int.cast_ofNat_Int, Bool.or_true, Bool.true_or, Bool.or_false, Bool.false_or, Nat.le_refl, Nat.zero_le, or_true, true_or, or_false, false_or, not_true_eq_false, not_false_eq_true, false_implies, true_implies, eq_self, zo_iconst, zo_bipush, zo_sipush, zo_lconst, zo_ldc, zo_ldc_w, zo_ldc2_w, zo_iload_n, zo_iload, zo_lload_n, zo_lload, zo_aload_n, zo_aload, zo_istore_n, zo_istore, zo_lstore_n, zo_lstore, zo_astore_n, zo_astore, zo_iinc, zo_iadd, zo_isub, zo_imul, zo_iand, zo_ior, zo_ixor, zo_ishl, zo_ishr, zo_iushr, zo_idiv, zo_irem, zo_ladd, zo_lsub, zo_lmul, zo_ldiv, zo_lrem, zo_lcmp, zo_i2l, zo_i2b, zo_i2s, zo_dup, zo_dup2, zo_aconst_null, zo_if_icmp, zo_ifCond, zo_goto, zo_ifnull, zo_ifnonnull, zo_iaload, zo_baload, zo_laload, zo_aaload, zo_iastore, zo_bastore, zo_lastore, zo_arraylength, zo_getfield, zo_putfield, zo_tableswitch, zo_lookupswitch, zo_ireturn, zo_lreturn, zo_areturn, zo_return, zo_invokestatic, zo_invokevirtual, zo_new, zo_invokespecial, zo_newarray, zo_anewarray, zo_aastore, zq_iconst, zq_bipush, zq_sipush, zq_lconst0, zq_lconst1, zq_ldc, zq_ldc_w, zq_ldc2_w, zq_iload0, zq_iload1, zq_iload2, zq_iload3, zq_iload, zq_lload0, zq_lload1, zq_lload2, zq_lload3, zq_lload, zq_aload0, zq_aload1, zq_aload2, zq_aload3, zq_aload, zq_istore0, zq_istore1, zq_istore2, zq_istore3, zq_istore, zq_lstore0, zq_lstore1, zq_lstore2, zq_lstore3, zq_lstore, zq_astore0, zq_astore0N, zq_astore1, zq_astore1N, zq_astore2, zq_astore2N, zq_astore3, zq_astore3N, zq_astore, zq_astoreN, zq_iinc, zq_iadd, zq_isub, zq_imul, zq_iand, zq_ior, zq_ixor, zq_ishl, zq_ishr, zq_iushr, zq_idiv, zq_irem, zq_ladd, zq_lsub, zq_lmul, zq_ldiv, zq_lrem, zq_lcmp, zq_i2l, zq_i2b, zq_i2s, zq_dup_i, zq_dup_r, zq_dup2, zq_null, zq_icmp_eq, zq_if_eq, zq_icmp_ne, zq_if_ne, zq_icmp_lt, zq_if_lt, zq_icmp_ge, zq_if_ge, zq_icmp_gt, zq_if_gt, zq_icmp_le, zq_if_le, zq_goto, zq_ifnull_r, zq_ifnull_n, zq_ifnonnull_r, zq_ifnonnull_n, zq_iaload, zq_baload, zq_laload, zq_aaload, zq_iastore, zq_bastore, zq_lastore, zq_alen, zq_getf, zq_put, zq_tsw, zq_lsw, zq_ireturn, zq_lreturn, zq_areturn, zq_areturnN, zq_return, zq_invokestatic, zq_invokevirtual, zq_new, zq_invokespecial, zq_newarray, zq_anewarray, zq_aastore, zi_m1, zi_0, zi_1, zi_2, zi_3, zi_4, zi_5, zi_6, zi_8, zi_16, zb_m10, zb_m4, zb_m3, zb_m2, zb_6, zb_7, zb_8, zb_9, zb_10, zb_16, zb_20, zb_23, zb_30, zb_32, zb_35, zb_46, zb_48, zb_56, zb_57, zb_59, zb_63, zb_70, zb_98, zb_99, zb_100, zb_111, zb_112, zs_192, zs_255, zs_256, zs_511, zs_512, zs_12345, zf_X2_21_1, zf_X2_21_7, zf_X2_9_1, zf_X2_9_7, zf_X2_15_1, zf_X2_15_7, zf_X2_18_1, zf_X2_18_7, za_C_2, za_C_3, za_C_4, za_C_5, za_C_6, za_C_8, za_C_9, za_C_10, za_C_12, za_C_14, za_C_15, za_C_16, za_C_17, za_C_22, za_C_23, za_C_24, za_C_25, dX2_every_0, dX2_every_1, dX2_every_2, dX2_every_5, dX2_every_6, dX2_every_7, dX2_every_8]
    exact h
  · exact h.elim
theorem ok_X2_every_B {tl : List ZE} : z_Ok (z_shC tl) yX2_every cX2_every 1 (some .int) ({ frames := 0, cells := 0, slots := 0, locals := 0 } : Room) 0 wp_X2_every_B := z_Ok_of pu_X2_every_B z_fX2_ok z_kX2_ok co_X2_every ⟨by decide, by decide⟩ (by decide +kernel)
theorem rec_X2_every_B {tl : List ZE} : z_rec (z_shC tl) wp_X2_every_B 0 := by
  intro as S post h
  unfold wp_X2_every_B at h
  split at h
  · exact ⟨_, _, _, rfl, rfl⟩
  · exact h.elim

