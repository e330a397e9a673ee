/-! the model: sheets -/
theorem MR_she {T : ZT} {S : ZS} (h : MR T S) {s : Nat} (hs : s < 4) : m_she T S s := h.2.2.2.2.2.2.2.1 s hs
theorem MR_shI {T : ZT} {S : ZS} (h : MR T S) {s : Nat} (hs : s < 4) : (tsh T s).2.1 ≤ 2 ∧ (tsh T s).2.2 ≤ 48 := h.1.2.2.2.2.2.2.1 s hs
theorem MR_lost {T : ZT} {S : ZS} (h : MR T S) {s : Nat} (hs : s < 4) : S.1 18 s = 0 ↔ (tsh T s).1 = false := by
  obtain ⟨h1, h2⟩ := MR_she h hs
  cases e : (tsh T s).1 with
  | false => exact ⟨fun _ => rfl, fun _ => h2 e⟩
  | true => refine ⟨fun c => ?_, fun c => absurd c (by decide)⟩
            rw [(h1 e).1] at c
            exact absurd c (by decide)
theorem MR_there {T : ZT} {S : ZS} (h : MR T S) {s : Nat} (hs : s < 4) (c : ¬ S.1 18 s = 0) : (tsh T s).1 = true := by
  cases e : (tsh T s).1 with
  | true => rfl
  | false => exact absurd ((MR_lost h hs).mpr e) c
theorem nar_1 : vp_nar .boolean (1 : Int32) = 1 := by decide
theorem nar_0 : vp_nar .boolean (0 : Int32) = 0 := by decide
theorem e48 (n m : Nat) : (48 : Int32) * nI n + nI m = nI (48 * n + m) := by rw [show (48 : Int32) = nI 48 from rfl, pk_mul, nI_add]
def wp_X8_sheet : ZW := fun as S k => match as with
  | [.ref 0, .int s, .int f, .int n] => ∃ T : ZT, MR T S ∧ ∀ S', MR (u_sheet T s f n) S' → k (some (.int (q_sheet T s f n))) S'
  | _ => False
theorem wr_X8_sheet {s : Int32} {f : Int32} {n : Int32} {S : ZS} {k : Option Value → ZS → Prop} : wp_X8_sheet [.ref 0, .int s, .int f, .int n] S k = (∃ T : ZT, MR T S ∧ ∀ S', MR (u_sheet T s f n) S' → k (some (.int (q_sheet T s f n))) S') := rfl
def cs_X8_sheet : List (Nat × ZC) := [(147, (1, 0, true, wp_X8_isSheet)), (94, (3, 0, true, wp_X8_in)), (150, (2, 0, false, wp_X8_meets))]
theorem cr_X8_sheet_147 : cs_X8_sheet.lookup 147 = some (1, 0, true, wp_X8_isSheet) := rfl
theorem cr_X8_sheet_94 : cs_X8_sheet.lookup 94 = some (3, 0, true, wp_X8_in) := rfl
theorem cr_X8_sheet_150 : cs_X8_sheet.lookup 150 = some (2, 0, false, wp_X8_meets) := rfl
set_option maxRecDepth 20000 in
theorem co_X8_sheet : z_csok RX8 ({ frames := 2, cells := 0, slots := 0, locals := 42 } : Room) z_shM cs_X8_sheet := z_cs2 (z_csS ok_X8_isSheet (z_g 866 (by decide +kernel) rfl) (z_g 867 (by decide +kernel) rfl) (z_g 51 (by decide +kernel) rfl) (z_g 868 (by decide +kernel) rfl) rfl rfl (by decide +kernel) ⟨by decide, by decide⟩)
  (z_cs2 (z_csS ok_X8_in (z_g 789 (by decide +kernel) rfl) (z_g 790 (by decide +kernel) rfl) (z_g 51 (by decide +kernel) rfl) (z_g 791 (by decide +kernel) rfl) rfl rfl (by decide +kernel) ⟨by decide, by decide⟩)
  (z_cs2 (z_csV ok_X8_meets rec_X8_meets rfl (z_g 869 (by decide +kernel) rfl) (z_g 871 (by decide +kernel) rfl) (z_g 18 (by decide +kernel) rfl) (z_g 872 (by decide +kernel) rfl) (z_g 51 (by decide +kernel) rfl) rfl rfl (by decide +kernel) ⟨by decide, by decide⟩)
  (z_cs0)))
set_option maxHeartbeats 4000000 in
set_option maxRecDepth 20000 in
theorem pu_X8_sheet : z_Pure cX8_sheet 5 z_shM z_fX8 cs_X8_sheet z_kcX8 z_klX8 (some .int) 0 wp_X8_sheet := by
  intro as S post h
  unfold wp_X8_sheet at h
  split at h
  · rename_i s f n
    refine ⟨Nat.le_of_ble_eq_true rfl, fun K hK => ?_⟩
    change K 0 0 [some (.ref 0), some (.int s), some (.int f), some (.int n), none] [] S
    obtain ⟨T, hM, hk⟩ := h
    have e48 : n ≤ 48 ↔ n.toInt ≤ 48 := by rw [i_le]; simp
    have e0 : 0 ≤ n ↔ ¬ n.toInt < 0 := by rw [i_le, li0]; omega
    have bad : ¬ (i_in s 4 ∧ i_in f 3 ∧ n.toInt ≤ 48) → post (some (.int (-2))) S := by
      intro q
      have g1 : q_sheet T s f n = -2 := by unfold q_sheet; rw [if_neg q]
      have g2 : u_sheet T s f n = T := by unfold u_sheet; rw [if_neg q]
      rw [g1, g2] at hk
      exact hk S hM
    have key : ∀ r : Nat, r < 4 → s = nI r → i_in f 3 → i_in n 49 → ∀ (m i : Nat) (S' : ZS), i + m = 48 → (S'.1 18 r = 1 ∧ S'.1 19 r = f ∧ S'.1 20 r = n ∧ (∀ j, j < i → S'.1 21 (48 * r + j) = 0) ∧ (∀ x, x < 4 → ¬ x = r → S'.1 18 x = S.1 18 x ∧ S'.1 19 x = S.1 19 x ∧ S'.1 20 x = S.1 20 x ∧ ∀ i, i < 48 → S'.1 21 (48 * x + i) = S.1 21 (48 * x + i)) ∧ ∀ a, ¬ (18 ≤ a ∧ a ≤ 22) → S'.1 a = S.1 a) → K 0 59 [some (.ref 0), some (.int s), some (.int f), some (.int n), some (.int (nI i))] [] S' := by
      intro r hr e hf hn m
      obtain ⟨c, ecn⟩ := s_c hr e
      induction m with
      | zero =>
        intro i S' hi hS
        refine hK (z_in [59]) 60 _ _ _ _ _ (Nat.zero_le _) ?_
        simp (config := { maxSteps := 10000000 }) only [z40, z20, z10, z01, zm0, z0m, ze_s, ze_ok, zt_s, zt_t, zt_f, zl_I, zl_J, zl_R, zl_N, zl_C, zl_K, zl_M, zl_ar0, zl_ar1, zl_ar2, zl_ar3, zl_as0, zl_as1, zl_as2, zl_al, zl_gf, zl_gr, zl_pf, zl_iv, zl_ivn, zlk_n, zlk_c, ztb_n, ztb_c, zin_n, zin_1, zin_c, Int.reduceLT, decide_true, decide_false, Bool.true_and, Bool.and_true, List.length_cons, List.length_nil, Int.reduceSub, Int.reduceEq, Int.natCast_zero, zk_s, z_in_n, z_in_c, z_gt_0, z_gt_s, zst_0, zst_1, zst_s, zsl_0, zsl_1, zsl_s, zc_n, zc_i, zc_l, zc_r, zc_u, zca_n, zca_i, zca_l, zca_r, zca_u, zrt_i, zrt_z, zrt_o, z_cal_0, z_cal_s, true_and, and_true, List.nil_append, List.cons_append, Option.toList_some, Option.toList_none, Nat.reduceAdd, Nat.reduceBEq, Nat.reduceLT, Nat.reduceLeDiff, Nat.reduceSub, Int.reduceAdd, Int.reduceLE, Int.reduceToNat, Int.cast_ofNat_Int, Bool.or_true, Bool.true_or, Bool.or_false, Bool.false_or, Nat.le_refl, Nat.zero_le, or_true, true_or, or_false, false_or, not_true_eq_false, not_false_eq_true, not_false_iff, false_implies, true_implies, eq_self, zo_iconst, zo_bipush, zo_sipush, zo_lconst, zo_ldc, zo_ldc_w, zo_ldc2_w, zo_iload_n, zo_iload, zo_lload_n, zo_lload, zo_aload_n, zo_aload, zo_istore_n, zo_istore, zo_lstore_n, zo_lstore, zo_astore_n, zo_astore, zo_iinc, zo_iadd, zo_isub, zo_imul, zo_iand, zo_ior, zo_ixor, zo_ishl, zo_ishr, zo_iushr, zo_idiv, zo_irem, zo_ladd, zo_lsub, zo_lmul, zo_ldiv, zo_lrem, zo_lcmp, zo_i2l, zo_i2b, zo_i2s, zo_dup, zo_dup2, zo_aconst_null, zo_if_icmp, zo_ifCond, zo_goto, zo_ifnull, zo_ifnonnull, zo_iaload, zo_baload, zo_laload, zo_aaload, zo_iastore, zo_bastore, zo_lastore, zo_arraylength, zo_getfield, zo_putfield, zo_tableswitch, zo_lookupswitch, zo_ireturn, zo_lreturn, zo_areturn, zo_return, zo_invokestatic, zo_invokevirtual, zo_new, zo_invokespecial, zo_newarray, zo_anewarray, zo_aastore, zy_0_1, zy_0_2, zy_0_3, zy_1_1, zy_1_2, zy_2_1, zy_2_2, zy_2_3, zy_3_0, zy_4_3, zy_5_1, zy_5_2, zy_6_5, zy_6_6, zy_6_7, zy_6_8, zy_6_9, zy_6_10, zy_7_2, zy_7_6, zy_7_9, zy_7_10, zy_7_11, zy_7_12, zy_7_14, zy_7_21, zy_7_30, zq_iconst, zq_bipush, zq_sipush, zq_lconst0, zq_lconst1, zq_ldc, zq_ldc_w, zq_ldc2_w, zq_iload0, zq_iload1, zq_iload2, zq_iload3, zq_iload, zq_lload0, zq_lload1, zq_lload2, zq_lload3, zq_lload, zq_aload0, zq_aload1, zq_aload2, zq_aload3, zq_aload, zq_istore0, zq_istore1, zq_istore2, zq_istore3, zq_istore, zq_lstore0, zq_lstore1, zq_lstore2, zq_lstore3, zq_lstore, zq_astore0, zq_astore0N, zq_astore1, zq_astore1N, zq_astore2, zq_astore2N, zq_astore3, zq_astore3N, zq_astore, zq_astoreN, zq_iinc, zq_iadd, zq_isub, zq_imul, zq_iand, zq_ior, zq_ixor, zq_ishl, zq_ishr, zq_iushr, zq_idiv, zq_irem, zq_ladd, zq_lsub, zq_lmul, zq_ldiv, zq_lrem, zq_lcmp, zq_i2l, zq_i2b, zq_i2s, zq_dup_i, zq_dup_r, zq_dup2, zq_null, zq_icmp_eq, zq_if_eq, zq_icmp_ne, zq_if_ne, zq_icmp_lt, zq_if_lt, zq_icmp_ge, zq_if_ge, zq_icmp_gt, zq_if_gt, zq_icmp_le, zq_if_le, zq_goto, zq_ifnull_r, zq_ifnull_n, zq_ifnonnull_r, zq_ifnonnull_n, zq_iaload, zq_baload, zq_laload, zq_aaload, zq_iastore, zq_bastore, zq_lastore, zq_alen, zq_getf, zq_put, zq_tsw, zq_lsw, zq_ireturn, zq_lreturn, zq_areturn, zq_areturnN, zq_return, zq_invokestatic, zq_invokevirtual, zq_new, zq_invokespecial, zq_newarray, zq_anewarray, zq_aastore, zi_m1, zi_0, zi_1, zi_2, zi_3, zi_4, zi_5, zi_6, zi_8, zi_16, zb_m10, zb_m4, zb_m3, zb_m2, zb_6, zb_7, zb_8, zb_9, zb_10, zb_16, zb_20, zb_23, zb_30, zb_32, zb_35, zb_46, zb_48, zb_56, zb_57, zb_59, zb_63, zb_70, zb_98, zb_99, zb_100, zb_111, zb_112, zs_192, zs_255, zs_256, zs_511, zs_512, zs_12345, zf_X8_7_0, zf_X8_13_0, zf_X8_112_0, zf_X8_16_0, zf_X8_19_0, zf_X8_22_0, zf_X8_115_0, zf_X8_25_0, zf_X8_28_0, zf_X8_78_0, zf_X8_82_0, zf_X8_85_0, zf_X8_144_0, zf_X8_31_0, zf_X8_137_0, zf_X8_34_0, zf_X8_38_0, zf_X8_41_0, zf_X8_44_0, zf_X8_47_0, zf_X8_50_0, zf_X8_234_0, zf_X8_53_0, zf_X8_56_0, zf_X8_59_0, zf_X8_62_0, zf_X8_66_0, zf_X8_69_0, zf_X8_72_0, zf_X8_75_0, zf_X8_244_0, zkc_X8_240, zkc_X8_253, zkl_X8_92, zkl_X8_262, zkl_X8_257, za_M_1, za_M_2, za_M_3, za_M_4, za_M_5, za_M_6, za_M_7, za_M_8, za_M_9, za_M_10, za_M_11, za_M_12, za_M_13, za_M_14, za_M_15, za_M_16, za_M_17, za_M_18, za_M_19, za_M_20, za_M_21, za_M_22, dX8_sheet_0, dX8_sheet_1, dX8_sheet_4, dX8_sheet_7, dX8_sheet_8, dX8_sheet_9, dX8_sheet_10, dX8_sheet_13, dX8_sheet_16, dX8_sheet_17, dX8_sheet_19, dX8_sheet_22, dX8_sheet_24, dX8_sheet_25, dX8_sheet_26, dX8_sheet_29, dX8_sheet_30, dX8_sheet_31, dX8_sheet_34, dX8_sheet_35, dX8_sheet_36, dX8_sheet_39, dX8_sheet_40, dX8_sheet_41, dX8_sheet_42, dX8_sheet_43, dX8_sheet_46, dX8_sheet_47, dX8_sheet_48, dX8_sheet_49, dX8_sheet_50, dX8_sheet_53, dX8_sheet_54, dX8_sheet_55, dX8_sheet_56, dX8_sheet_57, dX8_sheet_59, dX8_sheet_61, dX8_sheet_63, dX8_sheet_66, dX8_sheet_67, dX8_sheet_70, dX8_sheet_72, dX8_sheet_73, dX8_sheet_74, dX8_sheet_76, dX8_sheet_77, dX8_sheet_78, dX8_sheet_79, dX8_sheet_82, dX8_sheet_85, dX8_sheet_86, cr_X8_sheet_147, cr_X8_sheet_94, cr_X8_sheet_150, wr_X8_isSheet, wr_X8_in, wr_X8_meets]
        obtain rfl : i = 48 := by omega
        refine ⟨fun _ => ?_, fun c => absurd (by decide) c⟩
        obtain ⟨h1, h2, h3, h4, h5, h6⟩ := hS
        have C : i_in s 4 ∧ i_in f 3 ∧ n.toInt ≤ 48 := ⟨c, hf, by have := hn.2; omega⟩
        have n0 : ¬ n.toInt < 0 := by have := hn.1; omega
        have g1 : q_sheet T s f n = n := by unfold q_sheet; rw [if_pos C, if_neg n0]
        have g2 : u_sheet T s f n = wSh T r (true, cn f, cn n) (fun _ => 0) := by unfold u_sheet; rw [if_pos C, if_neg n0, ecn]
        rw [g1, g2] at hk
        obtain ⟨ef, hf2⟩ := f_c hf
        obtain ⟨en, hn2⟩ := i_inI hn (by omega)
        refine hk S' (MR_Wsh hM hr ⟨hf2, by dsimp only; omega⟩ ?_ h5 h6)
        unfold m_she
        dsimp only [wSh, tsh, tit]
        simp only [va_up_self]
        exact ⟨fun _ => ⟨h1, h2.trans ef, h3.trans en, fun i hi => h4 i (by omega)⟩, fun q => absurd q (by decide)⟩
      | succ m ih =>
        intro i S' hi hS
        refine hK (z_in [59]) 60 _ _ _ _ _ (Nat.zero_le _) ?_
        simp (config := { maxSteps := 10000000 }) only [z40, z20, z10, z01, zm0, z0m, ze_s, ze_ok, zt_s, zt_t, zt_f, zl_I, zl_J, zl_R, zl_N, zl_C, zl_K, zl_M, zl_ar0, zl_ar1, zl_ar2, zl_ar3, zl_as0, zl_as1, zl_as2, zl_al, zl_gf, zl_gr, zl_pf, zl_iv, zl_ivn, zlk_n, zlk_c, ztb_n, ztb_c, zin_n, zin_1, zin_c, Int.reduceLT, decide_true, decide_false, Bool.true_and, Bool.and_true, List.length_cons, List.length_nil, Int.reduceSub, Int.reduceEq, Int.natCast_zero, zk_s, z_in_n, z_in_c, z_gt_0, z_gt_s, zst_0, zst_1, zst_s, zsl_0, zsl_1, zsl_s, zc_n, zc_i, zc_l, zc_r, zc_u, zca_n, zca_i, zca_l, zca_r, zca_u, zrt_i, zrt_z, zrt_o, z_cal_0, z_cal_s, true_and, and_true, List.nil_append, List.cons_append, Option.toList_some, Option.toList_none, Nat.reduceAdd, Nat.reduceBEq, Nat.reduceLT, Nat.reduceLeDiff, Nat.reduceSub, Int.reduceAdd, Int.reduceLE, Int.reduceToNat, Int.cast_ofNat_Int, Bool.or_true, Bool.true_or, Bool.or_false, Bool.false_or, Nat.le_refl, Nat.zero_le, or_true, true_or, or_false, false_or, not_true_eq_false, not_false_eq_true, not_false_iff, false_implies, true_implies, eq_self, zo_iconst, zo_bipush, zo_sipush, zo_lconst, zo_ldc, zo_ldc_w, zo_ldc2_w, zo_iload_n, zo_iload, zo_lload_n, zo_lload, zo_aload_n, zo_aload, zo_istore_n, zo_istore, zo_lstore_n, zo_lstore, zo_astore_n, zo_astore, zo_iinc, zo_iadd, zo_isub, zo_imul, zo_iand, zo_ior, zo_ixor, zo_ishl, zo_ishr, zo_iushr, zo_idiv, zo_irem, zo_ladd, zo_lsub, zo_lmul, zo_ldiv, zo_lrem, zo_lcmp, zo_i2l, zo_i2b, zo_i2s, zo_dup, zo_dup2, zo_aconst_null, zo_if_icmp, zo_ifCond, zo_goto, zo_ifnull, zo_ifnonnull, zo_iaload, zo_baload, zo_laload, zo_aaload, zo_iastore, zo_bastore, zo_lastore, zo_arraylength, zo_getfield, zo_putfield, zo_tableswitch, zo_lookupswitch, zo_ireturn, zo_lreturn, zo_areturn, zo_return, zo_invokestatic, zo_invokevirtual, zo_new, zo_invokespecial, zo_newarray, zo_anewarray, zo_aastore, zy_0_1, zy_0_2, zy_0_3, zy_1_1, zy_1_2, zy_2_1, zy_2_2, zy_2_3, zy_3_0, zy_4_3, zy_5_1, zy_5_2, zy_6_5, zy_6_6, zy_6_7, zy_6_8, zy_6_9, zy_6_10, zy_7_2, zy_7_6, zy_7_9, zy_7_10, zy_7_11, zy_7_12, zy_7_14, zy_7_21, zy_7_30, zq_iconst, zq_bipush, zq_sipush, zq_lconst0, zq_lconst1, zq_ldc, zq_ldc_w, zq_ldc2_w, zq_iload0, zq_iload1, zq_iload2, zq_iload3, zq_iload, zq_lload0, zq_lload1, zq_lload2, zq_lload3, zq_lload, zq_aload0, zq_aload1, zq_aload2, zq_aload3, zq_aload, zq_istore0, zq_istore1, zq_istore2, zq_istore3, zq_istore, zq_lstore0, zq_lstore1, zq_lstore2, zq_lstore3, zq_lstore, zq_astore0, zq_astore0N, zq_astore1, zq_astore1N, zq_astore2, zq_astore2N, zq_astore3, zq_astore3N, zq_astore, zq_astoreN, zq_iinc, zq_iadd, zq_isub, zq_imul, zq_iand, zq_ior, zq_ixor, zq_ishl, zq_ishr, zq_iushr, zq_idiv, zq_irem, zq_ladd, zq_lsub, zq_lmul, zq_ldiv, zq_lrem, zq_lcmp, zq_i2l, zq_i2b, zq_i2s, zq_dup_i, zq_dup_r, zq_dup2, zq_null, zq_icmp_eq, zq_if_eq, zq_icmp_ne, zq_if_ne, zq_icmp_lt, zq_if_lt, zq_icmp_ge, zq_if_ge, zq_icmp_gt, zq_if_gt, zq_icmp_le, zq_if_le, zq_goto, zq_ifnull_r, zq_ifnull_n, zq_ifnonnull_r, zq_ifnonnull_n, zq_iaload, zq_baload, zq_laload, zq_aaload, zq_iastore, zq_bastore, zq_lastore, zq_alen, zq_getf, zq_put, zq_tsw, zq_lsw, zq_ireturn, zq_lreturn, zq_areturn, zq_areturnN, zq_return, zq_invokestatic, zq_invokevirtual, zq_new, zq_invokespecial, zq_newarray, zq_anewarray, zq_aastore, zi_m1, zi_0, zi_1, zi_2, zi_3, zi_4, zi_5, zi_6, zi_8, zi_16, zb_m10, zb_m4, zb_m3, zb_m2, zb_6, zb_7, zb_8, zb_9, zb_10, zb_16, zb_20, zb_23, zb_30, zb_32, zb_35, zb_46, zb_48, zb_56, zb_57, zb_59, zb_63, zb_70, zb_98, zb_99, zb_100, zb_111, zb_112, zs_192, zs_255, zs_256, zs_511, zs_512, zs_12345, zf_X8_7_0, zf_X8_13_0, zf_X8_112_0, zf_X8_16_0, zf_X8_19_0, zf_X8_22_0, zf_X8_115_0, zf_X8_25_0, zf_X8_28_0, zf_X8_78_0, zf_X8_82_0, zf_X8_85_0, zf_X8_144_0, zf_X8_31_0, zf_X8_137_0, zf_X8_34_0, zf_X8_38_0, zf_X8_41_0, zf_X8_44_0, zf_X8_47_0, zf_X8_50_0, zf_X8_234_0, zf_X8_53_0, zf_X8_56_0, zf_X8_59_0, zf_X8_62_0, zf_X8_66_0, zf_X8_69_0, zf_X8_72_0, zf_X8_75_0, zf_X8_244_0, zkc_X8_240, zkc_X8_253, zkl_X8_92, zkl_X8_262, zkl_X8_257, za_M_1, za_M_2, za_M_3, za_M_4, za_M_5, za_M_6, za_M_7, za_M_8, za_M_9, za_M_10, za_M_11, za_M_12, za_M_13, za_M_14, za_M_15, za_M_16, za_M_17, za_M_18, za_M_19, za_M_20, za_M_21, za_M_22, dX8_sheet_0, dX8_sheet_1, dX8_sheet_4, dX8_sheet_7, dX8_sheet_8, dX8_sheet_9, dX8_sheet_10, dX8_sheet_13, dX8_sheet_16, dX8_sheet_17, dX8_sheet_19, dX8_sheet_22, dX8_sheet_24, dX8_sheet_25, dX8_sheet_26, dX8_sheet_29, dX8_sheet_30, dX8_sheet_31, dX8_sheet_34, dX8_sheet_35, dX8_sheet_36, dX8_sheet_39, dX8_sheet_40, dX8_sheet_41, dX8_sheet_42, dX8_sheet_43, dX8_sheet_46, dX8_sheet_47, dX8_sheet_48, dX8_sheet_49, dX8_sheet_50, dX8_sheet_53, dX8_sheet_54, dX8_sheet_55, dX8_sheet_56, dX8_sheet_57, dX8_sheet_59, dX8_sheet_61, dX8_sheet_63, dX8_sheet_66, dX8_sheet_67, dX8_sheet_70, dX8_sheet_72, dX8_sheet_73, dX8_sheet_74, dX8_sheet_76, dX8_sheet_77, dX8_sheet_78, dX8_sheet_79, dX8_sheet_82, dX8_sheet_85, dX8_sheet_86, cr_X8_sheet_147, cr_X8_sheet_94, cr_X8_sheet_150, wr_X8_isSheet, wr_X8_in, wr_X8_meets]
        rw [e, show (48 : Int32) * nI r + nI i = nI (48 * r + i) by rw [show (48 : Int32) = nI 48 from rfl, pk_mul, nI_add], n_cl (by omega), nI_1]
        refine ⟨fun c => absurd c (by rw [show (48 : Int32) = nI 48 from rfl, n_le (by omega) (by omega)]; omega), fun _ => ⟨n_in (by omega) (by omega), ?_⟩⟩
        rw [← e]
        obtain ⟨h1, h2, h3, h4, h5, h6⟩ := hS
        refine ih (i + 1) _ (by omega) ⟨?_, ?_, ?_, fun j hj => ?_, fun x hx hxr => ⟨?_, ?_, ?_, fun i2 hi2 => ?_⟩, fun a ha => ?_⟩
        · simp only [z_rd, Nat.reduceEqDiff, true_and, and_true, and_self, false_and, and_false, if_true, if_false]
          exact h1
        · simp only [z_rd, Nat.reduceEqDiff, true_and, and_true, and_self, false_and, and_false, if_true, if_false]
          exact h2
        · simp only [z_rd, Nat.reduceEqDiff, true_and, and_true, and_self, false_and, and_false, if_true, if_false]
          exact h3
        · simp only [z_rd, Nat.reduceEqDiff, true_and, and_true, and_self, false_and, and_false, if_true, if_false]
          by_cases ej : j = i
          · subst ej; rw [if_pos rfl]
          · rw [if_neg (by omega)]; exact h4 j (by omega)
        · simp only [z_rd, Nat.reduceEqDiff, true_and, and_true, and_self, false_and, and_false, if_true, if_false]
          exact (h5 x hx hxr).1
        · simp only [z_rd, Nat.reduceEqDiff, true_and, and_true, and_self, false_and, and_false, if_true, if_false]
          exact (h5 x hx hxr).2.1
        · simp only [z_rd, Nat.reduceEqDiff, true_and, and_true, and_self, false_and, and_false, if_true, if_false]
          exact (h5 x hx hxr).2.2.1
        · simp only [z_rd, Nat.reduceEqDiff, true_and, and_true, and_self, false_and, and_false, if_true, if_false]
          rw [if_neg (by omega)]; exact (h5 x hx hxr).2.2.2 i2 hi2
        · dsimp only; rw [z_u_o (by omega)]; exact h6 a ha
    refine hK (z_in [59]) 60 _ _ _ _ _ (Nat.zero_le _) ?_
    simp (config := { maxSteps := 10000000 }) only [z40, z20, z10, z01, zm0, z0m, ze_s, ze_ok, zt_s, zt_t, zt_f, zl_I, zl_J, zl_R, zl_N, zl_C, zl_K, zl_M, zl_ar0, zl_ar1, zl_ar2, zl_ar3, zl_as0, zl_as1, zl_as2, zl_al, zl_gf, zl_gr, zl_pf, zl_iv, zl_ivn, zlk_n, zlk_c, ztb_n, ztb_c, zin_n, zin_1, zin_c, Int.reduceLT, decide_true, decide_false, Bool.true_and, Bool.and_true, List.length_cons, List.length_nil, Int.reduceSub, Int.reduceEq, Int.natCast_zero, zk_s, z_in_n, z_in_c, z_gt_0, z_gt_s, zst_0, zst_1, zst_s, zsl_0, zsl_1, zsl_s, zc_n, zc_i, zc_l, zc_r, zc_u, zca_n, zca_i, zca_l, zca_r, zca_u, zrt_i, zrt_z, zrt_o, z_cal_0, z_cal_s, true_and, and_true, List.nil_append, List.cons_append, Option.toList_some, Option.toList_none, Nat.reduceAdd, Nat.reduceBEq, Nat.reduceLT, Nat.reduceLeDiff, Nat.reduceSub, Int.reduceAdd, Int.reduceLE, Int.reduceToNat, Int.cast_ofNat_Int, Bool.or_true, Bool.true_or, Bool.or_false, Bool.false_or, Nat.le_refl, Nat.zero_le, or_true, true_or, or_false, false_or, not_true_eq_false, not_false_eq_true, not_false_iff, false_implies, true_implies, eq_self, zo_iconst, zo_bipush, zo_sipush, zo_lconst, zo_ldc, zo_ldc_w, zo_ldc2_w, zo_iload_n, zo_iload, zo_lload_n, zo_lload, zo_aload_n, zo_aload, zo_istore_n, zo_istore, zo_lstore_n, zo_lstore, zo_astore_n, zo_astore, zo_iinc, zo_iadd, zo_isub, zo_imul, zo_iand, zo_ior, zo_ixor, zo_ishl, zo_ishr, zo_iushr, zo_idiv, zo_irem, zo_ladd, zo_lsub, zo_lmul, zo_ldiv, zo_lrem, zo_lcmp, zo_i2l, zo_i2b, zo_i2s, zo_dup, zo_dup2, zo_aconst_null, zo_if_icmp, zo_ifCond, zo_goto, zo_ifnull, zo_ifnonnull, zo_iaload, zo_baload, zo_laload, zo_aaload, zo_iastore, zo_bastore, zo_lastore, zo_arraylength, zo_getfield, zo_putfield, zo_tableswitch, zo_lookupswitch, zo_ireturn, zo_lreturn, zo_areturn, zo_return, zo_invokestatic, zo_invokevirtual, zo_new, zo_invokespecial, zo_newarray, zo_anewarray, zo_aastore, zy_0_1, zy_0_2, zy_0_3, zy_1_1, zy_1_2, zy_2_1, zy_2_2, zy_2_3, zy_3_0, zy_4_3, zy_5_1, zy_5_2, zy_6_5, zy_6_6, zy_6_7, zy_6_8, zy_6_9, zy_6_10, zy_7_2, zy_7_6, zy_7_9, zy_7_10, zy_7_11, zy_7_12, zy_7_14, zy_7_21, zy_7_30, zq_iconst, zq_bipush, zq_sipush, zq_lconst0, zq_lconst1, zq_ldc, zq_ldc_w, zq_ldc2_w, zq_iload0, zq_iload1, zq_iload2, zq_iload3, zq_iload, zq_lload0, zq_lload1, zq_lload2, zq_lload3, zq_lload, zq_aload0, zq_aload1, zq_aload2, zq_aload3, zq_aload, zq_istore0, zq_istore1, zq_istore2, zq_istore3, zq_istore, zq_lstore0, zq_lstore1, zq_lstore2, zq_lstore3, zq_lstore, zq_astore0, zq_astore0N, zq_astore1, zq_astore1N, zq_astore2, zq_astore2N, zq_astore3, zq_astore3N, zq_astore, zq_astoreN, zq_iinc, zq_iadd, zq_isub, zq_imul, zq_iand, zq_ior, zq_ixor, zq_ishl, zq_ishr, zq_iushr, zq_idiv, zq_irem, zq_ladd, zq_lsub, zq_lmul, zq_ldiv, zq_lrem, zq_lcmp, zq_i2l, zq_i2b, zq_i2s, zq_dup_i, zq_dup_r, zq_dup2, zq_null, zq_icmp_eq, zq_if_eq, zq_icmp_ne, zq_if_ne, zq_icmp_lt, zq_if_lt, zq_icmp_ge, zq_if_ge, zq_icmp_gt, zq_if_gt, zq_icmp_le, zq_if_le, zq_goto, zq_ifnull_r, zq_ifnull_n, zq_ifnonnull_r, zq_ifnonnull_n, zq_iaload, zq_baload, zq_laload, zq_aaload, zq_iastore, zq_bastore, zq_lastore, zq_alen, zq_getf, zq_put, zq_tsw, zq_lsw, zq_ireturn, zq_lreturn, zq_areturn, zq_areturnN, zq_return, zq_invokestatic, zq_invokevirtual, zq_new, zq_invokespecial, zq_newarray, zq_anewarray, zq_aastore, zi_m1, zi_0, zi_1, zi_2, zi_3, zi_4, zi_5, zi_6, zi_8, zi_16, zb_m10, zb_m4, zb_m3, zb_m2, zb_6, zb_7, zb_8, zb_9, zb_10, zb_16, zb_20, zb_23, zb_30, zb_32, zb_35, zb_46, zb_48, zb_56, zb_57, zb_59, zb_63, zb_70, zb_98, zb_99, zb_100, zb_111, zb_112, zs_192, zs_255, zs_256, zs_511, zs_512, zs_12345, zf_X8_7_0, zf_X8_13_0, zf_X8_112_0, zf_X8_16_0, zf_X8_19_0, zf_X8_22_0, zf_X8_115_0, zf_X8_25_0, zf_X8_28_0, zf_X8_78_0, zf_X8_82_0, zf_X8_85_0, zf_X8_144_0, zf_X8_31_0, zf_X8_137_0, zf_X8_34_0, zf_X8_38_0, zf_X8_41_0, zf_X8_44_0, zf_X8_47_0, zf_X8_50_0, zf_X8_234_0, zf_X8_53_0, zf_X8_56_0, zf_X8_59_0, zf_X8_62_0, zf_X8_66_0, zf_X8_69_0, zf_X8_72_0, zf_X8_75_0, zf_X8_244_0, zkc_X8_240, zkc_X8_253, zkl_X8_92, zkl_X8_262, zkl_X8_257, za_M_1, za_M_2, za_M_3, za_M_4, za_M_5, za_M_6, za_M_7, za_M_8, za_M_9, za_M_10, za_M_11, za_M_12, za_M_13, za_M_14, za_M_15, za_M_16, za_M_17, za_M_18, za_M_19, za_M_20, za_M_21, za_M_22, dX8_sheet_0, dX8_sheet_1, dX8_sheet_4, dX8_sheet_7, dX8_sheet_8, dX8_sheet_9, dX8_sheet_10, dX8_sheet_13, dX8_sheet_16, dX8_sheet_17, dX8_sheet_19, dX8_sheet_22, dX8_sheet_24, dX8_sheet_25, dX8_sheet_26, dX8_sheet_29, dX8_sheet_30, dX8_sheet_31, dX8_sheet_34, dX8_sheet_35, dX8_sheet_36, dX8_sheet_39, dX8_sheet_40, dX8_sheet_41, dX8_sheet_42, dX8_sheet_43, dX8_sheet_46, dX8_sheet_47, dX8_sheet_48, dX8_sheet_49, dX8_sheet_50, dX8_sheet_53, dX8_sheet_54, dX8_sheet_55, dX8_sheet_56, dX8_sheet_57, dX8_sheet_59, dX8_sheet_61, dX8_sheet_63, dX8_sheet_66, dX8_sheet_67, dX8_sheet_70, dX8_sheet_72, dX8_sheet_73, dX8_sheet_74, dX8_sheet_76, dX8_sheet_77, dX8_sheet_78, dX8_sheet_79, dX8_sheet_82, dX8_sheet_85, dX8_sheet_86, cr_X8_sheet_147, cr_X8_sheet_94, cr_X8_sheet_150, wr_X8_isSheet, wr_X8_in, wr_X8_meets]
    simp only [w_in (m := 2) (M := 2) (by decide), nar_1]
    refine ⟨fun c => ⟨fun d => ⟨fun l => ⟨fun z => ?_, fun z => ?_⟩, fun l => bad (fun q => l (e48.mpr q.2.2))⟩, fun d => bad (fun q => d q.2.1)⟩, fun c => bad (fun q => c q.1)⟩
    · obtain ⟨es, hs⟩ := i_inI c (by omega)
      have hn : i_in n 49 := ⟨by have := e0.mp z; omega, by have := e48.mp l; omega⟩
      have hin : vp_in s 4 := by rw [es]; exact n_in (by omega) (by omega)
      refine ⟨hin, hin, hin, key (cn s) hs es d hn 48 0 _ rfl ⟨?_, ?_, ?_, fun j hj => absurd hj (Nat.not_lt_zero _), fun x hx hxr => ⟨?_, ?_, ?_, fun i2 hi2 => ?_⟩, fun a ha => ?_⟩⟩
      · simp only [z_rd, Nat.reduceEqDiff, true_and, and_true, and_self, false_and, and_false, if_true, if_false]
      · simp only [z_rd, Nat.reduceEqDiff, true_and, and_true, and_self, false_and, and_false, if_true, if_false]
      · simp only [z_rd, Nat.reduceEqDiff, true_and, and_true, and_self, false_and, and_false, if_true, if_false]
      · simp only [z_rd, Nat.reduceEqDiff, true_and, and_true, and_self, false_and, and_false, if_true, if_false]
        rw [if_neg (by omega)]
      · simp only [z_rd, Nat.reduceEqDiff, true_and, and_true, and_self, false_and, and_false, if_true, if_false]
        rw [if_neg (by omega)]
      · simp only [z_rd, Nat.reduceEqDiff, true_and, and_true, and_self, false_and, and_false, if_true, if_false]
        rw [if_neg (by omega)]
      · simp only [z_rd, Nat.reduceEqDiff, true_and, and_true, and_self, false_and, and_false, if_true, if_false]
      · dsimp only; rw [z_u_o (by omega), z_u_o (by omega), z_u_o (by omega)]
    · have C : i_in s 4 ∧ i_in f 3 ∧ n.toInt ≤ 48 := ⟨c, d, e48.mp l⟩
      have z' : n.toInt < 0 := by rw [e0] at z; omega
      have g1 : q_sheet T s f n = q_fnd 5 := by unfold q_sheet; rw [if_pos C, if_pos z']
      have g2 : u_sheet T s f n = wFd T 5 := by unfold u_sheet; rw [if_pos C, if_pos z']
      rw [g1, g2] at hk
      exact ⟨T, 5, hM, rfl, by omega, hk⟩
  · exact h.elim
theorem ok_X8_sheet : z_Ok z_shM yX8_sheet cX8_sheet 5 (some .int) ({ frames := 2, cells := 0, slots := 0, locals := 42 } : Room) 0 wp_X8_sheet := z_Ok_of pu_X8_sheet z_fX8_ok z_kX8_ok co_X8_sheet ⟨by decide, by decide⟩ (by decide +kernel)
theorem rec_X8_sheet : z_rec z_shM wp_X8_sheet 7 := by
  intro as S post h
  unfold wp_X8_sheet at h
  split at h
  · exact ⟨_, _, _, rfl, rfl⟩
  · exact h.elim
def wp_X8_lose : ZW := fun as S k => match as with
  | [.ref 0, .int s] => ∃ T : ZT, MR T S ∧ ∀ S', MR (u_lose T s) S' → k (some (.int (q_lose T s))) S'
  | _ => False
theorem wr_X8_lose {s : Int32} {S : ZS} {k : Option Value → ZS → Prop} : wp_X8_lose [.ref 0, .int s] S k = (∃ T : ZT, MR T S ∧ ∀ S', MR (u_lose T s) S' → k (some (.int (q_lose T s))) S') := rfl
def cs_X8_lose : List (Nat × ZC) := [(147, (1, 0, true, wp_X8_isSheet)), (150, (2, 0, false, wp_X8_meets))]
theorem cr_X8_lose_147 : cs_X8_lose.lookup 147 = some (1, 0, true, wp_X8_isSheet) := rfl
theorem cr_X8_lose_150 : cs_X8_lose.lookup 150 = some (2, 0, false, wp_X8_meets) := rfl
set_option maxRecDepth 20000 in
theorem co_X8_lose : z_csok RX8 ({ frames := 2, cells := 0, slots := 0, locals := 42 } : Room) z_shM cs_X8_lose := z_cs2 (z_csS ok_X8_isSheet (z_g 866 (by decide +kernel) rfl) (z_g 867 (by decide +kernel) rfl) (z_g 51 (by decide +kernel) rfl) (z_g 868 (by decide +kernel) rfl) rfl rfl (by decide +kernel) ⟨by decide, by decide⟩)
  (z_cs2 (z_csV ok_X8_meets rec_X8_meets rfl (z_g 869 (by decide +kernel) rfl) (z_g 871 (by decide +kernel) rfl) (z_g 18 (by decide +kernel) rfl) (z_g 872 (by decide +kernel) rfl) (z_g 51 (by decide +kernel) rfl) rfl rfl (by decide +kernel) ⟨by decide, by decide⟩)
  (z_cs0))
set_option maxHeartbeats 4000000 in
set_option maxRecDepth 20000 in
theorem pu_X8_lose : z_Pure cX8_lose 2 z_shM z_fX8 cs_X8_lose z_kcX8 z_klX8 (some .int) 0 wp_X8_lose := by
  intro as S post h
  unfold wp_X8_lose at h
  split at h
  · rename_i s
    refine ⟨Nat.le_of_ble_eq_true rfl, fun K hK => ?_⟩
    change K 0 0 [some (.ref 0), some (.int s)] [] S
    obtain ⟨T, hM, hk⟩ := h
    refine hK (z_in []) 60 _ _ _ _ _ (Nat.zero_le _) ?_
    simp (config := { maxSteps := 10000000 }) only [z40, z20, z10, z01, zm0, z0m, ze_s, ze_ok, zt_s, zt_t, zt_f, zl_I, zl_J, zl_R, zl_N, zl_C, zl_K, zl_M, zl_ar0, zl_ar1, zl_ar2, zl_ar3, zl_as0, zl_as1, zl_as2, zl_al, zl_gf, zl_gr, zl_pf, zl_iv, zl_ivn, zlk_n, zlk_c, ztb_n, ztb_c, zin_n, zin_1, zin_c, Int.reduceLT, decide_true, decide_false, Bool.true_and, Bool.and_true, List.length_cons, List.length_nil, Int.reduceSub, Int.reduceEq, Int.natCast_zero, zk_s, z_in_n, z_in_c, z_gt_0, z_gt_s, zst_0, zst_1, zst_s, zsl_0, zsl_1, zsl_s, zc_n, zc_i, zc_l, zc_r, zc_u, zca_n, zca_i, zca_l, zca_r, zca_u, zrt_i, zrt_z, zrt_o, z_cal_0, z_cal_s, true_and, and_true, List.nil_append, List.cons_append, Option.toList_some, Option.toList_none, Nat.reduceAdd, Nat.reduceBEq, Nat.reduceLT, Nat.reduceLeDiff, Nat.reduceSub, Int.reduceAdd, Int.reduceLE, Int.reduceToNat, Int.cast_ofNat_Int, Bool.or_true, Bool.true_or, Bool.or_false, Bool.false_or, Nat.le_refl, Nat.zero_le, or_true, true_or, or_false, false_or, not_true_eq_false, not_false_eq_true, not_false_iff, false_implies, true_implies, eq_self, zo_iconst, zo_bipush, zo_sipush, zo_lconst, zo_ldc, zo_ldc_w, zo_ldc2_w, zo_iload_n, zo_iload, zo_lload_n, zo_lload, zo_aload_n, zo_aload, zo_istore_n, zo_istore, zo_lstore_n, zo_lstore, zo_astore_n, zo_astore, zo_iinc, zo_iadd, zo_isub, zo_imul, zo_iand, zo_ior, zo_ixor, zo_ishl, zo_ishr, zo_iushr, zo_idiv, zo_irem, zo_ladd, zo_lsub, zo_lmul, zo_ldiv, zo_lrem, zo_lcmp, zo_i2l, zo_i2b, zo_i2s, zo_dup, zo_dup2, zo_aconst_null, zo_if_icmp, zo_ifCond, zo_goto, zo_ifnull, zo_ifnonnull, zo_iaload, zo_baload, zo_laload, zo_aaload, zo_iastore, zo_bastore, zo_lastore, zo_arraylength, zo_getfield, zo_putfield, zo_tableswitch, zo_lookupswitch, zo_ireturn, zo_lreturn, zo_areturn, zo_return, zo_invokestatic, zo_invokevirtual, zo_new, zo_invokespecial, zo_newarray, zo_anewarray, zo_aastore, zy_0_1, zy_0_2, zy_0_3, zy_1_1, zy_1_2, zy_2_1, zy_2_2, zy_2_3, zy_3_0, zy_4_3, zy_5_1, zy_5_2, zy_6_5, zy_6_6, zy_6_7, zy_6_8, zy_6_9, zy_6_10, zy_7_2, zy_7_6, zy_7_9, zy_7_10, zy_7_11, zy_7_12, zy_7_14, zy_7_21, zy_7_30, zq_iconst, zq_bipush, zq_sipush, zq_lconst0, zq_lconst1, zq_ldc, zq_ldc_w, zq_ldc2_w, zq_iload0, zq_iload1, zq_iload2, zq_iload3, zq_iload, zq_lload0, zq_lload1, zq_lload2, zq_lload3, zq_lload, zq_aload0, zq_aload1, zq_aload2, zq_aload3, zq_aload, zq_istore0, zq_istore1, zq_istore2, zq_istore3, zq_istore, zq_lstore0, zq_lstore1, zq_lstore2, zq_lstore3, zq_lstore, zq_astore0, zq_astore0N, zq_astore1, zq_astore1N, zq_astore2, zq_astore2N, zq_astore3, zq_astore3N, zq_astore, zq_astoreN, zq_iinc, zq_iadd, zq_isub, zq_imul, zq_iand, zq_ior, zq_ixor, zq_ishl, zq_ishr, zq_iushr, zq_idiv, zq_irem, zq_ladd, zq_lsub, zq_lmul, zq_ldiv, zq_lrem, zq_lcmp, zq_i2l, zq_i2b, zq_i2s, zq_dup_i, zq_dup_r, zq_dup2, zq_null, zq_icmp_eq, zq_if_eq, zq_icmp_ne, zq_if_ne, zq_icmp_lt, zq_if_lt, zq_icmp_ge, zq_if_ge, zq_icmp_gt, zq_if_gt, zq_icmp_le, zq_if_le, zq_goto, zq_ifnull_r, zq_ifnull_n, zq_ifnonnull_r, zq_ifnonnull_n, zq_iaload, zq_baload, zq_laload, zq_aaload, zq_iastore, zq_bastore, zq_lastore, zq_alen, zq_getf, zq_put, zq_tsw, zq_lsw, zq_ireturn, zq_lreturn, zq_areturn, zq_areturnN, zq_return, zq_invokestatic, zq_invokevirtual, zq_new, zq_invokespecial, zq_newarray, zq_anewarray, zq_aastore, zi_m1, zi_0, zi_1, zi_2, zi_3, zi_4, zi_5, zi_6, zi_8, zi_16, zb_m10, zb_m4, zb_m3, zb_m2, zb_6, zb_7, zb_8, zb_9, zb_10, zb_16, zb_20, zb_23, zb_30, zb_32, zb_35, zb_46, zb_48, zb_56, zb_57, zb_59, zb_63, zb_70, zb_98, zb_99, zb_100, zb_111, zb_112, zs_192, zs_255, zs_256, zs_511, zs_512, zs_12345, zf_X8_7_0, zf_X8_13_0, zf_X8_112_0, zf_X8_16_0, zf_X8_19_0, zf_X8_22_0, zf_X8_115_0, zf_X8_25_0, zf_X8_28_0, zf_X8_78_0, zf_X8_82_0, zf_X8_85_0, zf_X8_144_0, zf_X8_31_0, zf_X8_137_0, zf_X8_34_0, zf_X8_38_0, zf_X8_41_0, zf_X8_44_0, zf_X8_47_0, zf_X8_50_0, zf_X8_234_0, zf_X8_53_0, zf_X8_56_0, zf_X8_59_0, zf_X8_62_0, zf_X8_66_0, zf_X8_69_0, zf_X8_72_0, zf_X8_75_0, zf_X8_244_0, zkc_X8_240, zkc_X8_253, zkl_X8_92, zkl_X8_262, zkl_X8_257, za_M_1, za_M_2, za_M_3, za_M_4, za_M_5, za_M_6, za_M_7, za_M_8, za_M_9, za_M_10, za_M_11, za_M_12, za_M_13, za_M_14, za_M_15, za_M_16, za_M_17, za_M_18, za_M_19, za_M_20, za_M_21, za_M_22, dX8_lose_0, dX8_lose_1, dX8_lose_4, dX8_lose_7, dX8_lose_9, dX8_lose_10, dX8_lose_11, dX8_lose_14, dX8_lose_15, dX8_lose_16, dX8_lose_19, dX8_lose_20, dX8_lose_21, dX8_lose_24, dX8_lose_25, dX8_lose_26, dX8_lose_29, dX8_lose_30, dX8_lose_31, dX8_lose_32, dX8_lose_33, dX8_lose_36, dX8_lose_37, dX8_lose_38, cr_X8_lose_147, cr_X8_lose_150, wr_X8_isSheet, wr_X8_meets]
    rw [nar_0]
    refine ⟨fun c => ?_, fun c => ?_⟩
    · obtain ⟨es, hs⟩ := i_inI c (by omega)
      have hin : vp_in s 4 := by rw [es]; exact n_in (by omega) (by omega)
      refine ⟨hin, fun l => ?_, fun l => ?_⟩
      · have hl := (MR_lost hM hs).mp l
        have g1 : q_lose T s = q_fnd 1 := by unfold q_lose; rw [if_pos c, if_neg (by rw [hl]; decide)]
        have g2 : u_lose T s = wFd T 1 := by unfold u_lose; rw [if_pos c, if_neg (by rw [hl]; decide)]
        rw [g1, g2] at hk
        exact ⟨T, 1, hM, rfl, by omega, hk⟩
      · have ht := MR_there hM hs l
        have g1 : q_lose T s = nI (tsh T (cn s)).2.2 := by unfold q_lose; rw [if_pos c, if_pos ht]
        have g2 : u_lose T s = wSh T (cn s) (false, (tsh T (cn s)).2) (tit T (cn s)) := by unfold u_lose; rw [if_pos c, if_pos ht]
        rw [g1, g2] at hk
        have e2 : z_u S.1 18 (cn s) 0 20 (cn s) = nI (tsh T (cn s)).2.2 := by
          simp only [z_rd, Nat.reduceEqDiff, true_and, and_true, and_self, false_and, and_false, if_true, if_false]
          exact ((MR_she hM hs).1 ht).2.2.1
        rw [e2]
        refine ⟨hin, hin, hk _ (MR_Wsh hM hs (MR_shI hM hs) ?_ (fun x hx hxr => ⟨?_, ?_, ?_, fun i hi => ?_⟩) (fun a ha => by dsimp only; rw [z_u_o (by omega)]))⟩
        · unfold m_she
          dsimp only [wSh, tsh, tit]
          simp only [va_up_self]
          exact ⟨fun q => absurd q (by decide), fun _ => by simp only [z_rd, Nat.reduceEqDiff, true_and, and_true, and_self, false_and, and_false, if_true, if_false]⟩
        · simp only [z_rd, Nat.reduceEqDiff, true_and, and_true, and_self, false_and, and_false, if_true, if_false]
          rw [if_neg (by omega)]
        · simp only [z_rd, Nat.reduceEqDiff, true_and, and_true, and_self, false_and, and_false, if_true, if_false]
        · simp only [z_rd, Nat.reduceEqDiff, true_and, and_true, and_self, false_and, and_false, if_true, if_false]
        · simp only [z_rd, Nat.reduceEqDiff, true_and, and_true, and_self, false_and, and_false, if_true, if_false]
    · have g1 : q_lose T s = -2 := by unfold q_lose; rw [if_neg c]
      have g2 : u_lose T s = T := by unfold u_lose; rw [if_neg c]
      rw [g1, g2] at hk
      exact hk S hM
  · exact h.elim
theorem ok_X8_lose : z_Ok z_shM yX8_lose cX8_lose 2 (some .int) ({ frames := 2, cells := 0, slots := 0, locals := 42 } : Room) 0 wp_X8_lose := z_Ok_of pu_X8_lose z_fX8_ok z_kX8_ok co_X8_lose ⟨by decide, by decide⟩ (by decide +kernel)
theorem rec_X8_lose : z_rec z_shM wp_X8_lose 7 := by
  intro as S post h
  unfold wp_X8_lose at h
  split at h
  · exact ⟨_, _, _, rfl, rfl⟩
  · exact h.elim
def wp_X8_lacks : ZW := fun as S k => match as with
  | [.ref 0, .int s, .int f, .int i] => ∃ (T : ZT) (n : Nat), s = nI n ∧ n < 4 ∧ MR T S ∧ k (some (.int (nI (q_lack T n f i)))) S
  | _ => False
theorem wr_X8_lacks {s : Int32} {f : Int32} {i : Int32} {S : ZS} {k : Option Value → ZS → Prop} : wp_X8_lacks [.ref 0, .int s, .int f, .int i] S k = (∃ (T : ZT) (n : Nat), s = nI n ∧ n < 4 ∧ MR T S ∧ k (some (.int (nI (q_lack T n f i)))) S) := rfl
def cs_X8_lacks : List (Nat × ZC) := [(94, (3, 0, true, wp_X8_in))]
theorem cr_X8_lacks_94 : cs_X8_lacks.lookup 94 = some (3, 0, true, wp_X8_in) := rfl
set_option maxRecDepth 20000 in
theorem co_X8_lacks : z_csok RX8 ({ frames := 1, cells := 0, slots := 0, locals := 22 } : Room) z_shM cs_X8_lacks := z_cs2 (z_csS ok_X8_in (z_g 789 (by decide +kernel) rfl) (z_g 790 (by decide +kernel) rfl) (z_g 51 (by decide +kernel) rfl) (z_g 791 (by decide +kernel) rfl) rfl rfl (by decide +kernel) ⟨by decide, by decide⟩)
  (z_cs0)
set_option maxHeartbeats 4000000 in
set_option maxRecDepth 20000 in
theorem pu_X8_lacks : z_Pure cX8_lacks 4 z_shM z_fX8 cs_X8_lacks z_kcX8 z_klX8 (some .int) 0 wp_X8_lacks := by
  intro as S post h
  unfold wp_X8_lacks at h
  split at h
  · rename_i s f i
    refine ⟨Nat.le_of_ble_eq_true rfl, fun K hK => ?_⟩
    change K 0 0 [some (.ref 0), some (.int s), some (.int f), some (.int i)] [] S
    obtain ⟨T, n, rfl, hn, hM, hk⟩ := h
    have hin : vp_in (nI n) 4 := n_in (by omega) (by omega)
    obtain ⟨h1, h2⟩ := MR_she hM hn
    have I := MR_shI hM hn
    refine hK (z_in []) 60 _ _ _ _ _ (Nat.zero_le _) ?_
    simp (config := { maxSteps := 10000000 }) only [z40, z20, z10, z01, zm0, z0m, ze_s, ze_ok, zt_s, zt_t, zt_f, zl_I, zl_J, zl_R, zl_N, zl_C, zl_K, zl_M, zl_ar0, zl_ar1, zl_ar2, zl_ar3, zl_as0, zl_as1, zl_as2, zl_al, zl_gf, zl_gr, zl_pf, zl_iv, zl_ivn, zlk_n, zlk_c, ztb_n, ztb_c, zin_n, zin_1, zin_c, Int.reduceLT, decide_true, decide_false, Bool.true_and, Bool.and_true, List.length_cons, List.length_nil, Int.reduceSub, Int.reduceEq, Int.natCast_zero, zk_s, z_in_n, z_in_c, z_gt_0, z_gt_s, zst_0, zst_1, zst_s, zsl_0, zsl_1, zsl_s, zc_n, zc_i, zc_l, zc_r, zc_u, zca_n, zca_i, zca_l, zca_r, zca_u, zrt_i, zrt_z, zrt_o, z_cal_0, z_cal_s, true_and, and_true, List.nil_append, List.cons_append, Option.toList_some, Option.toList_none, Nat.reduceAdd, Nat.reduceBEq, Nat.reduceLT, Nat.reduceLeDiff, Nat.reduceSub, Int.reduceAdd, Int.reduceLE, Int.reduceToNat, Int.cast_ofNat_Int, Bool.or_true, Bool.true_or, Bool.or_false, Bool.false_or, Nat.le_refl, Nat.zero_le, or_true, true_or, or_false, false_or, not_true_eq_false, not_false_eq_true, not_false_iff, false_implies, true_implies, eq_self, zo_iconst, zo_bipush, zo_sipush, zo_lconst, zo_ldc, zo_ldc_w, zo_ldc2_w, zo_iload_n, zo_iload, zo_lload_n, zo_lload, zo_aload_n, zo_aload, zo_istore_n, zo_istore, zo_lstore_n, zo_lstore, zo_astore_n, zo_astore, zo_iinc, zo_iadd, zo_isub, zo_imul, zo_iand, zo_ior, zo_ixor, zo_ishl, zo_ishr, zo_iushr, zo_idiv, zo_irem, zo_ladd, zo_lsub, zo_lmul, zo_ldiv, zo_lrem, zo_lcmp, zo_i2l, zo_i2b, zo_i2s, zo_dup, zo_dup2, zo_aconst_null, zo_if_icmp, zo_ifCond, zo_goto, zo_ifnull, zo_ifnonnull, zo_iaload, zo_baload, zo_laload, zo_aaload, zo_iastore, zo_bastore, zo_lastore, zo_arraylength, zo_getfield, zo_putfield, zo_tableswitch, zo_lookupswitch, zo_ireturn, zo_lreturn, zo_areturn, zo_return, zo_invokestatic, zo_invokevirtual, zo_new, zo_invokespecial, zo_newarray, zo_anewarray, zo_aastore, zy_0_1, zy_0_2, zy_0_3, zy_1_1, zy_1_2, zy_2_1, zy_2_2, zy_2_3, zy_3_0, zy_4_3, zy_5_1, zy_5_2, zy_6_5, zy_6_6, zy_6_7, zy_6_8, zy_6_9, zy_6_10, zy_7_2, zy_7_6, zy_7_9, zy_7_10, zy_7_11, zy_7_12, zy_7_14, zy_7_21, zy_7_30, zq_iconst, zq_bipush, zq_sipush, zq_lconst0, zq_lconst1, zq_ldc, zq_ldc_w, zq_ldc2_w, zq_iload0, zq_iload1, zq_iload2, zq_iload3, zq_iload, zq_lload0, zq_lload1, zq_lload2, zq_lload3, zq_lload, zq_aload0, zq_aload1, zq_aload2, zq_aload3, zq_aload, zq_istore0, zq_istore1, zq_istore2, zq_istore3, zq_istore, zq_lstore0, zq_lstore1, zq_lstore2, zq_lstore3, zq_lstore, zq_astore0, zq_astore0N, zq_astore1, zq_astore1N, zq_astore2, zq_astore2N, zq_astore3, zq_astore3N, zq_astore, zq_astoreN, zq_iinc, zq_iadd, zq_isub, zq_imul, zq_iand, zq_ior, zq_ixor, zq_ishl, zq_ishr, zq_iushr, zq_idiv, zq_irem, zq_ladd, zq_lsub, zq_lmul, zq_ldiv, zq_lrem, zq_lcmp, zq_i2l, zq_i2b, zq_i2s, zq_dup_i, zq_dup_r, zq_dup2, zq_null, zq_icmp_eq, zq_if_eq, zq_icmp_ne, zq_if_ne, zq_icmp_lt, zq_if_lt, zq_icmp_ge, zq_if_ge, zq_icmp_gt, zq_if_gt, zq_icmp_le, zq_if_le, zq_goto, zq_ifnull_r, zq_ifnull_n, zq_ifnonnull_r, zq_ifnonnull_n, zq_iaload, zq_baload, zq_laload, zq_aaload, zq_iastore, zq_bastore, zq_lastore, zq_alen, zq_getf, zq_put, zq_tsw, zq_lsw, zq_ireturn, zq_lreturn, zq_areturn, zq_areturnN, zq_return, zq_invokestatic, zq_invokevirtual, zq_new, zq_invokespecial, zq_newarray, zq_anewarray, zq_aastore, zi_m1, zi_0, zi_1, zi_2, zi_3, zi_4, zi_5, zi_6, zi_8, zi_16, zb_m10, zb_m4, zb_m3, zb_m2, zb_6, zb_7, zb_8, zb_9, zb_10, zb_16, zb_20, zb_23, zb_30, zb_32, zb_35, zb_46, zb_48, zb_56, zb_57, zb_59, zb_63, zb_70, zb_98, zb_99, zb_100, zb_111, zb_112, zs_192, zs_255, zs_256, zs_511, zs_512, zs_12345, zf_X8_7_0, zf_X8_13_0, zf_X8_112_0, zf_X8_16_0, zf_X8_19_0, zf_X8_22_0, zf_X8_115_0, zf_X8_25_0, zf_X8_28_0, zf_X8_78_0, zf_X8_82_0, zf_X8_85_0, zf_X8_144_0, zf_X8_31_0, zf_X8_137_0, zf_X8_34_0, zf_X8_38_0, zf_X8_41_0, zf_X8_44_0, zf_X8_47_0, zf_X8_50_0, zf_X8_234_0, zf_X8_53_0, zf_X8_56_0, zf_X8_59_0, zf_X8_62_0, zf_X8_66_0, zf_X8_69_0, zf_X8_72_0, zf_X8_75_0, zf_X8_244_0, zkc_X8_240, zkc_X8_253, zkl_X8_92, zkl_X8_262, zkl_X8_257, za_M_1, za_M_2, za_M_3, za_M_4, za_M_5, za_M_6, za_M_7, za_M_8, za_M_9, za_M_10, za_M_11, za_M_12, za_M_13, za_M_14, za_M_15, za_M_16, za_M_17, za_M_18, za_M_19, za_M_20, za_M_21, za_M_22, dX8_lacks_0, dX8_lacks_1, dX8_lacks_4, dX8_lacks_5, dX8_lacks_6, dX8_lacks_9, dX8_lacks_10, dX8_lacks_13, dX8_lacks_14, dX8_lacks_17, dX8_lacks_18, dX8_lacks_19, dX8_lacks_20, dX8_lacks_23, dX8_lacks_24, dX8_lacks_27, dX8_lacks_28, dX8_lacks_29, dX8_lacks_30, dX8_lacks_33, dX8_lacks_34, dX8_lacks_35, dX8_lacks_36, dX8_lacks_37, dX8_lacks_40, dX8_lacks_43, dX8_lacks_44, dX8_lacks_47, dX8_lacks_48, cr_X8_lacks_94, wr_X8_in]
    rw [n_cl (by omega)]
    unfold q_lack at hk
    refine ⟨hin, fun l => ?_, fun l => ⟨hin, fun d => ⟨hin, ?_⟩, fun d => ?_⟩⟩
    · rw [if_pos ((MR_lost hM hn).mp l)] at hk; exact hk
    · have ht := MR_there hM hn l
      obtain ⟨a1, a2, a3, a4⟩ := h1 ht
      rw [a2] at d
      rw [if_neg (by rw [ht]; decide), if_neg (fun q => q d)] at hk
      rw [a3, w_in' (by omega)]
      exact ⟨fun c => by rw [if_pos c] at hk; exact hk, fun c => by rw [if_neg c] at hk; exact hk⟩
    · have ht := MR_there hM hn l
      obtain ⟨a1, a2, a3, a4⟩ := h1 ht
      rw [a2] at d
      rw [if_neg (by rw [ht]; decide), if_pos d] at hk
      exact hk
  · exact h.elim
theorem ok_X8_lacks : z_Ok z_shM yX8_lacks cX8_lacks 4 (some .int) ({ frames := 1, cells := 0, slots := 0, locals := 22 } : Room) 0 wp_X8_lacks := z_Ok_of pu_X8_lacks z_fX8_ok z_kX8_ok co_X8_lacks ⟨by decide, by decide⟩ (by decide +kernel)
theorem rec_X8_lacks : z_rec z_shM wp_X8_lacks 7 := by
  intro as S post h
  unfold wp_X8_lacks at h
  split at h
  · exact ⟨_, _, _, rfl, rfl⟩
  · exact h.elim
def wp_X8_keep : ZW := fun as S k => match as with
  | [.ref 0, .int s, .int i, .int v] => ∃ (T : ZT) (n m : Nat), s = nI n ∧ i = nI m ∧ n < 4 ∧ m < 48 ∧ MR T S ∧ (tsh T n).1 = true ∧ k none (z_u S.1 21 (48 * n + m) (ab_narrow (tsh T n).2.1 v), S.2)
  | _ => False
theorem wr_X8_keep {s : Int32} {i : Int32} {v : Int32} {S : ZS} {k : Option Value → ZS → Prop} : wp_X8_keep [.ref 0, .int s, .int i, .int v] S k = (∃ (T : ZT) (n m : Nat), s = nI n ∧ i = nI m ∧ n < 4 ∧ m < 48 ∧ MR T S ∧ (tsh T n).1 = true ∧ k none (z_u S.1 21 (48 * n + m) (ab_narrow (tsh T n).2.1 v), S.2)) := rfl
def cs_X8_keep : List (Nat × ZC) := []
set_option maxRecDepth 20000 in
theorem co_X8_keep : z_csok RX8 ({ frames := 0, cells := 0, slots := 0, locals := 0 } : Room) z_shM cs_X8_keep := z_cs0
set_option maxHeartbeats 4000000 in
set_option maxRecDepth 20000 in
theorem pu_X8_keep : z_Pure cX8_keep 4 z_shM z_fX8 cs_X8_keep z_kcX8 z_klX8 none 0 wp_X8_keep := by
  intro as S post h
  unfold wp_X8_keep at h
  split at h
  · rename_i s i v
    refine ⟨Nat.le_of_ble_eq_true rfl, fun K hK => ?_⟩
    change K 0 0 [some (.ref 0), some (.int s), some (.int i), some (.int v)] [] S
    obtain ⟨T, n, m, rfl, rfl, hn, hm, hM, ht, hk⟩ := h
    have hin : vp_in (nI n) 4 := n_in (by omega) (by omega)
    have hin2 : vp_in (nI (48 * n + m)) 192 := n_in (by omega) (by omega)
    obtain ⟨a1, a2, a3, a4⟩ := (MR_she hM hn).1 ht
    have I := (MR_shI hM hn).1
    refine hK (z_in []) 60 _ _ _ _ _ (Nat.zero_le _) ?_
    simp (config := { maxSteps := 10000000 }) only [z40, z20, z10, z01, zm0, z0m, ze_s, ze_ok, zt_s, zt_t, zt_f, zl_I, zl_J, zl_R, zl_N, zl_C, zl_K, zl_M, zl_ar0, zl_ar1, zl_ar2, zl_ar3, zl_as0, zl_as1, zl_as2, zl_al, zl_gf, zl_gr, zl_pf, zl_iv, zl_ivn, zlk_n, zlk_c, ztb_n, ztb_c, zin_n, zin_1, zin_c, Int.reduceLT, decide_true, decide_false, Bool.true_and, Bool.and_true, List.length_cons, List.length_nil, Int.reduceSub, Int.reduceEq, Int.natCast_zero, zk_s, z_in_n, z_in_c, z_gt_0, z_gt_s, zst_0, zst_1, zst_s, zsl_0, zsl_1, zsl_s, zc_n, zc_i, zc_l, zc_r, zc_u, zca_n, zca_i, zca_l, zca_r, zca_u, zrt_i, zrt_z, zrt_o, z_cal_0, z_cal_s, true_and, and_true, List.nil_append, List.cons_append, Option.toList_some, Option.toList_none, Nat.reduceAdd, Nat.reduceBEq, Nat.reduceLT, Nat.reduceLeDiff, Nat.reduceSub, Int.reduceAdd, Int.reduceLE, Int.reduceToNat, Int.cast_ofNat_Int, Bool.or_true, Bool.true_or, Bool.or_false, Bool.false_or, Nat.le_refl, Nat.zero_le, or_true, true_or, or_false, false_or, not_true_eq_false, not_false_eq_true, not_false_iff, false_implies, true_implies, eq_self, zo_iconst, zo_bipush, zo_sipush, zo_lconst, zo_ldc, zo_ldc_w, zo_ldc2_w, zo_iload_n, zo_iload, zo_lload_n, zo_lload, zo_aload_n, zo_aload, zo_istore_n, zo_istore, zo_lstore_n, zo_lstore, zo_astore_n, zo_astore, zo_iinc, zo_iadd, zo_isub, zo_imul, zo_iand, zo_ior, zo_ixor, zo_ishl, zo_ishr, zo_iushr, zo_idiv, zo_irem, zo_ladd, zo_lsub, zo_lmul, zo_ldiv, zo_lrem, zo_lcmp, zo_i2l, zo_i2b, zo_i2s, zo_dup, zo_dup2, zo_aconst_null, zo_if_icmp, zo_ifCond, zo_goto, zo_ifnull, zo_ifnonnull, zo_iaload, zo_baload, zo_laload, zo_aaload, zo_iastore, zo_bastore, zo_lastore, zo_arraylength, zo_getfield, zo_putfield, zo_tableswitch, zo_lookupswitch, zo_ireturn, zo_lreturn, zo_areturn, zo_return, zo_invokestatic, zo_invokevirtual, zo_new, zo_invokespecial, zo_newarray, zo_anewarray, zo_aastore, zy_0_1, zy_0_2, zy_0_3, zy_1_1, zy_1_2, zy_2_1, zy_2_2, zy_2_3, zy_3_0, zy_4_3, zy_5_1, zy_5_2, zy_6_5, zy_6_6, zy_6_7, zy_6_8, zy_6_9, zy_6_10, zy_7_2, zy_7_6, zy_7_9, zy_7_10, zy_7_11, zy_7_12, zy_7_14, zy_7_21, zy_7_30, zq_iconst, zq_bipush, zq_sipush, zq_lconst0, zq_lconst1, zq_ldc, zq_ldc_w, zq_ldc2_w, zq_iload0, zq_iload1, zq_iload2, zq_iload3, zq_iload, zq_lload0, zq_lload1, zq_lload2, zq_lload3, zq_lload, zq_aload0, zq_aload1, zq_aload2, zq_aload3, zq_aload, zq_istore0, zq_istore1, zq_istore2, zq_istore3, zq_istore, zq_lstore0, zq_lstore1, zq_lstore2, zq_lstore3, zq_lstore, zq_astore0, zq_astore0N, zq_astore1, zq_astore1N, zq_astore2, zq_astore2N, zq_astore3, zq_astore3N, zq_astore, zq_astoreN, zq_iinc, zq_iadd, zq_isub, zq_imul, zq_iand, zq_ior, zq_ixor, zq_ishl, zq_ishr, zq_iushr, zq_idiv, zq_irem, zq_ladd, zq_lsub, zq_lmul, zq_ldiv, zq_lrem, zq_lcmp, zq_i2l, zq_i2b, zq_i2s, zq_dup_i, zq_dup_r, zq_dup2, zq_null, zq_icmp_eq, zq_if_eq, zq_icmp_ne, zq_if_ne, zq_icmp_lt, zq_if_lt, zq_icmp_ge, zq_if_ge, zq_icmp_gt, zq_if_gt, zq_icmp_le, zq_if_le, zq_goto, zq_ifnull_r, zq_ifnull_n, zq_ifnonnull_r, zq_ifnonnull_n, zq_iaload, zq_baload, zq_laload, zq_aaload, zq_iastore, zq_bastore, zq_lastore, zq_alen, zq_getf, zq_put, zq_tsw, zq_lsw, zq_ireturn, zq_lreturn, zq_areturn, zq_areturnN, zq_return, zq_invokestatic, zq_invokevirtual, zq_new, zq_invokespecial, zq_newarray, zq_anewarray, zq_aastore, zi_m1, zi_0, zi_1, zi_2, zi_3, zi_4, zi_5, zi_6, zi_8, zi_16, zb_m10, zb_m4, zb_m3, zb_m2, zb_6, zb_7, zb_8, zb_9, zb_10, zb_16, zb_20, zb_23, zb_30, zb_32, zb_35, zb_46, zb_48, zb_56, zb_57, zb_59, zb_63, zb_70, zb_98, zb_99, zb_100, zb_111, zb_112, zs_192, zs_255, zs_256, zs_511, zs_512, zs_12345, zf_X8_7_0, zf_X8_13_0, zf_X8_112_0, zf_X8_16_0, zf_X8_19_0, zf_X8_22_0, zf_X8_115_0, zf_X8_25_0, zf_X8_28_0, zf_X8_78_0, zf_X8_82_0, zf_X8_85_0, zf_X8_144_0, zf_X8_31_0, zf_X8_137_0, zf_X8_34_0, zf_X8_38_0, zf_X8_41_0, zf_X8_44_0, zf_X8_47_0, zf_X8_50_0, zf_X8_234_0, zf_X8_53_0, zf_X8_56_0, zf_X8_59_0, zf_X8_62_0, zf_X8_66_0, zf_X8_69_0, zf_X8_72_0, zf_X8_75_0, zf_X8_244_0, zkc_X8_240, zkc_X8_253, zkl_X8_92, zkl_X8_262, zkl_X8_257, za_M_1, za_M_2, za_M_3, za_M_4, za_M_5, za_M_6, za_M_7, za_M_8, za_M_9, za_M_10, za_M_11, za_M_12, za_M_13, za_M_14, za_M_15, za_M_16, za_M_17, za_M_18, za_M_19, za_M_20, za_M_21, za_M_22, dX8_keep_0, dX8_keep_1, dX8_keep_4, dX8_keep_6, dX8_keep_7, dX8_keep_8, dX8_keep_9, dX8_keep_10, dX8_keep_11, dX8_keep_14, dX8_keep_15, dX8_keep_16, dX8_keep_19, dX8_keep_20, dX8_keep_21, dX8_keep_24, dX8_keep_25, dX8_keep_28, dX8_keep_29, dX8_keep_30, dX8_keep_31, dX8_keep_34, dX8_keep_35, dX8_keep_36, dX8_keep_39, dX8_keep_40, dX8_keep_41]
    rw [e48, n_cl (by omega), n_cl (by omega), a2]
    generalize (tsh T n).2.1 = f at *
    rw [n_eqL (n := f) (M := 0) 0 rfl (by omega) (by omega), n_eqL (n := f) (M := 1) 1 rfl (by omega) (by omega)]
    refine ⟨hin, fun c => ⟨hin2, ?_⟩, fun c => ⟨hin, fun d => ⟨hin2, ?_⟩, fun d => ⟨hin2, ?_⟩⟩⟩
    · subst c; exact hk
    · subst d; exact hk
    · obtain rfl : f = 2 := by omega
      exact hk
  · exact h.elim
theorem ok_X8_keep : z_Ok z_shM yX8_keep cX8_keep 4 none ({ frames := 0, cells := 0, slots := 0, locals := 0 } : Room) 0 wp_X8_keep := z_Ok_of pu_X8_keep z_fX8_ok z_kX8_ok co_X8_keep ⟨by decide, by decide⟩ (by decide +kernel)
theorem rec_X8_keep : z_rec z_shM wp_X8_keep 7 := by
  intro as S post h
  unfold wp_X8_keep at h
  split at h
  · exact ⟨_, _, _, rfl, rfl⟩
  · exact h.elim
theorem m_put {T : ZT} {S : ZS} {n m : Nat} {v : Int32} (hM : MR T S) (hn : n < 4) (hm : m < (tsh T n).2.2) (ht : (tsh T n).1 = true) : MR (wSh T n (tsh T n) (va_up (tit T n) m v)) (z_u S.1 21 (48 * n + m) v, S.2) := by
  obtain ⟨a1, a2, a3, a4⟩ := (MR_she hM hn).1 ht
  have I := MR_shI hM hn
  refine MR_Wsh hM hn I ?_ (fun x hx hxr => ⟨?_, ?_, ?_, fun i hi => ?_⟩) (fun a ha => by dsimp only; rw [z_u_o (by omega)])
  · unfold m_she
    dsimp only [wSh, tsh, tit]
    simp only [va_up_self]
    refine ⟨fun _ => ⟨?_, ?_, ?_, fun i hi => ?_⟩, fun q => absurd (ht.symm.trans q) (by decide)⟩
    · rw [z_u_o (by omega)]; exact a1
    · rw [z_u_o (by omega)]; exact a2
    · rw [z_u_o (by omega)]; exact a3
    · simp only [z_rd, true_and]
      by_cases e : i = m
      · subst e; rw [if_pos rfl, va_up_self]
      · rw [if_neg (by omega), va_up_ne _ _ e]; exact a4 i hi
  · dsimp only; rw [z_u_o (by omega)]
  · dsimp only; rw [z_u_o (by omega)]
  · dsimp only; rw [z_u_o (by omega)]
  · dsimp only; rw [z_u_nj (by omega)]
theorem q_lack0 {T : ZT} {n : Nat} {f i : Int32} (h : q_lack T n f i = 0) : (tsh T n).1 = true ∧ i_in i (tsh T n).2.2 := by
  unfold q_lack at h
  split at h
  · omega
  · rename_i t1
    split at h
    · omega
    · split at h
      · rename_i t3
        exact ⟨by cases q : (tsh T n).1 <;> simp_all, t3⟩
      · omega
def wp_X8_put : ZW := fun as S k => match as with
  | [.ref 0, .int s, .int f, .int i, .int v] => ∃ T : ZT, MR T S ∧ ∀ S', MR (u_put T s f i v) S' → k (some (.int (q_put T s f i v))) S'
  | _ => False
theorem wr_X8_put {s : Int32} {f : Int32} {i : Int32} {v : Int32} {S : ZS} {k : Option Value → ZS → Prop} : wp_X8_put [.ref 0, .int s, .int f, .int i, .int v] S k = (∃ T : ZT, MR T S ∧ ∀ S', MR (u_put T s f i v) S' → k (some (.int (q_put T s f i v))) S') := rfl
def cs_X8_put : List (Nat × ZC) := [(147, (1, 0, true, wp_X8_isSheet)), (94, (3, 0, true, wp_X8_in)), (247, (4, 0, false, wp_X8_lacks)), (150, (2, 0, false, wp_X8_meets)), (250, (4, 0, false, wp_X8_keep))]
theorem cr_X8_put_147 : cs_X8_put.lookup 147 = some (1, 0, true, wp_X8_isSheet) := rfl
theorem cr_X8_put_94 : cs_X8_put.lookup 94 = some (3, 0, true, wp_X8_in) := rfl
theorem cr_X8_put_247 : cs_X8_put.lookup 247 = some (4, 0, false, wp_X8_lacks) := rfl
theorem cr_X8_put_150 : cs_X8_put.lookup 150 = some (2, 0, false, wp_X8_meets) := rfl
theorem cr_X8_put_250 : cs_X8_put.lookup 250 = some (4, 0, false, wp_X8_keep) := rfl
set_option maxRecDepth 20000 in
theorem co_X8_put : z_csok RX8 ({ frames := 2, cells := 0, slots := 0, locals := 45 } : Room) z_shM cs_X8_put := z_cs2 (z_csS ok_X8_isSheet (z_g 866 (by decide +kernel) rfl) (z_g 867 (by decide +kernel) rfl) (z_g 51 (by decide +kernel) rfl) (z_g 868 (by decide +kernel) rfl) rfl rfl (by decide +kernel) ⟨by decide, by decide⟩)
  (z_cs2 (z_csS ok_X8_in (z_g 789 (by decide +kernel) rfl) (z_g 790 (by decide +kernel) rfl) (z_g 51 (by decide +kernel) rfl) (z_g 791 (by decide +kernel) rfl) rfl rfl (by decide +kernel) ⟨by decide, by decide⟩)
  (z_cs2 (z_csV ok_X8_lacks rec_X8_lacks rfl (z_g 1059 (by decide +kernel) rfl) (z_g 1061 (by decide +kernel) rfl) (z_g 39 (by decide +kernel) rfl) (z_g 1062 (by decide +kernel) rfl) (z_g 51 (by decide +kernel) rfl) rfl rfl (by decide +kernel) ⟨by decide, by decide⟩)
  (z_cs2 (z_csV ok_X8_meets rec_X8_meets rfl (z_g 869 (by decide +kernel) rfl) (z_g 871 (by decide +kernel) rfl) (z_g 18 (by decide +kernel) rfl) (z_g 872 (by decide +kernel) rfl) (z_g 51 (by decide +kernel) rfl) rfl rfl (by decide +kernel) ⟨by decide, by decide⟩)
  (z_cs2 (z_csV ok_X8_keep rec_X8_keep rfl (z_g 1063 (by decide +kernel) rfl) (z_g 1065 (by decide +kernel) rfl) (z_g 40 (by decide +kernel) rfl) (z_g 1066 (by decide +kernel) rfl) (z_g 51 (by decide +kernel) rfl) rfl rfl (by decide +kernel) ⟨by decide, by decide⟩)
  (z_cs0)))))
set_option maxHeartbeats 4000000 in
set_option maxRecDepth 20000 in
theorem pu_X8_put : z_Pure cX8_put 6 z_shM z_fX8 cs_X8_put z_kcX8 z_klX8 (some .int) 0 wp_X8_put := by
  intro as S post h
  unfold wp_X8_put at h
  split at h
  · rename_i s f i v
    refine ⟨Nat.le_of_ble_eq_true rfl, fun K hK => ?_⟩
    change K 0 0 [some (.ref 0), some (.int s), some (.int f), some (.int i), some (.int v), none] [] S
    obtain ⟨T, hM, hk⟩ := h
    refine hK (z_in []) 60 _ _ _ _ _ (Nat.zero_le _) ?_
    simp (config := { maxSteps := 10000000 }) only [z40, z20, z10, z01, zm0, z0m, ze_s, ze_ok, zt_s, zt_t, zt_f, zl_I, zl_J, zl_R, zl_N, zl_C, zl_K, zl_M, zl_ar0, zl_ar1, zl_ar2, zl_ar3, zl_as0, zl_as1, zl_as2, zl_al, zl_gf, zl_gr, zl_pf, zl_iv, zl_ivn, zlk_n, zlk_c, ztb_n, ztb_c, zin_n, zin_1, zin_c, Int.reduceLT, decide_true, decide_false, Bool.true_and, Bool.and_true, List.length_cons, List.length_nil, Int.reduceSub, Int.reduceEq, Int.natCast_zero, zk_s, z_in_n, z_in_c, z_gt_0, z_gt_s, zst_0, zst_1, zst_s, zsl_0, zsl_1, zsl_s, zc_n, zc_i, zc_l, zc_r, zc_u, zca_n, zca_i, zca_l, zca_r, zca_u, zrt_i, zrt_z, zrt_o, z_cal_0, z_cal_s, true_and, and_true, List.nil_append, List.cons_append, Option.toList_some, Option.toList_none, Nat.reduceAdd, Nat.reduceBEq, Nat.reduceLT, Nat.reduceLeDiff, Nat.reduceSub, Int.reduceAdd, Int.reduceLE, Int.reduceToNat, Int.cast_ofNat_Int, Bool.or_true, Bool.true_or, Bool.or_false, Bool.false_or, Nat.le_refl, Nat.zero_le, or_true, true_or, or_false, false_or, not_true_eq_false, not_false_eq_true, not_false_iff, false_implies, true_implies, eq_self, zo_iconst, zo_bipush, zo_sipush, zo_lconst, zo_ldc, zo_ldc_w, zo_ldc2_w, zo_iload_n, zo_iload, zo_lload_n, zo_lload, zo_aload_n, zo_aload, zo_istore_n, zo_istore, zo_lstore_n, zo_lstore, zo_astore_n, zo_astore, zo_iinc, zo_iadd, zo_isub, zo_imul, zo_iand, zo_ior, zo_ixor, zo_ishl, zo_ishr, zo_iushr, zo_idiv, zo_irem, zo_ladd, zo_lsub, zo_lmul, zo_ldiv, zo_lrem, zo_lcmp, zo_i2l, zo_i2b, zo_i2s, zo_dup, zo_dup2, zo_aconst_null, zo_if_icmp, zo_ifCond, zo_goto, zo_ifnull, zo_ifnonnull, zo_iaload, zo_baload, zo_laload, zo_aaload, zo_iastore, zo_bastore, zo_lastore, zo_arraylength, zo_getfield, zo_putfield, zo_tableswitch, zo_lookupswitch, zo_ireturn, zo_lreturn, zo_areturn, zo_return, zo_invokestatic, zo_invokevirtual, zo_new, zo_invokespecial, zo_newarray, zo_anewarray, zo_aastore, zy_0_1, zy_0_2, zy_0_3, zy_1_1, zy_1_2, zy_2_1, zy_2_2, zy_2_3, zy_3_0, zy_4_3, zy_5_1, zy_5_2, zy_6_5, zy_6_6, zy_6_7, zy_6_8, zy_6_9, zy_6_10, zy_7_2, zy_7_6, zy_7_9, zy_7_10, zy_7_11, zy_7_12, zy_7_14, zy_7_21, zy_7_30, zq_iconst, zq_bipush, zq_sipush, zq_lconst0, zq_lconst1, zq_ldc, zq_ldc_w, zq_ldc2_w, zq_iload0, zq_iload1, zq_iload2, zq_iload3, zq_iload, zq_lload0, zq_lload1, zq_lload2, zq_lload3, zq_lload, zq_aload0, zq_aload1, zq_aload2, zq_aload3, zq_aload, zq_istore0, zq_istore1, zq_istore2, zq_istore3, zq_istore, zq_lstore0, zq_lstore1, zq_lstore2, zq_lstore3, zq_lstore, zq_astore0, zq_astore0N, zq_astore1, zq_astore1N, zq_astore2, zq_astore2N, zq_astore3, zq_astore3N, zq_astore, zq_astoreN, zq_iinc, zq_iadd, zq_isub, zq_imul, zq_iand, zq_ior, zq_ixor, zq_ishl, zq_ishr, zq_iushr, zq_idiv, zq_irem, zq_ladd, zq_lsub, zq_lmul, zq_ldiv, zq_lrem, zq_lcmp, zq_i2l, zq_i2b, zq_i2s, zq_dup_i, zq_dup_r, zq_dup2, zq_null, zq_icmp_eq, zq_if_eq, zq_icmp_ne, zq_if_ne, zq_icmp_lt, zq_if_lt, zq_icmp_ge, zq_if_ge, zq_icmp_gt, zq_if_gt, zq_icmp_le, zq_if_le, zq_goto, zq_ifnull_r, zq_ifnull_n, zq_ifnonnull_r, zq_ifnonnull_n, zq_iaload, zq_baload, zq_laload, zq_aaload, zq_iastore, zq_bastore, zq_lastore, zq_alen, zq_getf, zq_put, zq_tsw, zq_lsw, zq_ireturn, zq_lreturn, zq_areturn, zq_areturnN, zq_return, zq_invokestatic, zq_invokevirtual, zq_new, zq_invokespecial, zq_newarray, zq_anewarray, zq_aastore, zi_m1, zi_0, zi_1, zi_2, zi_3, zi_4, zi_5, zi_6, zi_8, zi_16, zb_m10, zb_m4, zb_m3, zb_m2, zb_6, zb_7, zb_8, zb_9, zb_10, zb_16, zb_20, zb_23, zb_30, zb_32, zb_35, zb_46, zb_48, zb_56, zb_57, zb_59, zb_63, zb_70, zb_98, zb_99, zb_100, zb_111, zb_112, zs_192, zs_255, zs_256, zs_511, zs_512, zs_12345, zf_X8_7_0, zf_X8_13_0, zf_X8_112_0, zf_X8_16_0, zf_X8_19_0, zf_X8_22_0, zf_X8_115_0, zf_X8_25_0, zf_X8_28_0, zf_X8_78_0, zf_X8_82_0, zf_X8_85_0, zf_X8_144_0, zf_X8_31_0, zf_X8_137_0, zf_X8_34_0, zf_X8_38_0, zf_X8_41_0, zf_X8_44_0, zf_X8_47_0, zf_X8_50_0, zf_X8_234_0, zf_X8_53_0, zf_X8_56_0, zf_X8_59_0, zf_X8_62_0, zf_X8_66_0, zf_X8_69_0, zf_X8_72_0, zf_X8_75_0, zf_X8_244_0, zkc_X8_240, zkc_X8_253, zkl_X8_92, zkl_X8_262, zkl_X8_257, za_M_1, za_M_2, za_M_3, za_M_4, za_M_5, za_M_6, za_M_7, za_M_8, za_M_9, za_M_10, za_M_11, za_M_12, za_M_13, za_M_14, za_M_15, za_M_16, za_M_17, za_M_18, za_M_19, za_M_20, za_M_21, za_M_22, dX8_put_0, dX8_put_1, dX8_put_4, dX8_put_7, dX8_put_8, dX8_put_9, dX8_put_10, dX8_put_13, dX8_put_16, dX8_put_18, dX8_put_19, dX8_put_20, dX8_put_21, dX8_put_22, dX8_put_23, dX8_put_26, dX8_put_28, dX8_put_30, dX8_put_33, dX8_put_34, dX8_put_36, dX8_put_39, dX8_put_40, dX8_put_41, dX8_put_42, dX8_put_43, dX8_put_45, dX8_put_48, dX8_put_49, cr_X8_put_147, cr_X8_put_94, cr_X8_put_247, cr_X8_put_150, cr_X8_put_250, wr_X8_isSheet, wr_X8_in, wr_X8_lacks, wr_X8_meets, wr_X8_keep]
    rw [w_in (m := 2) (by decide)]
    have bad : ¬ (i_in s 4 ∧ i_in f 3) → post (some (.int (-2))) S := by
      intro q
      have g1 : q_put T s f i v = -2 := by unfold q_put; rw [if_neg q]
      have g2 : u_put T s f i v = T := by unfold u_put; rw [if_neg q]
      rw [g1, g2] at hk
      exact hk S hM
    refine ⟨fun c => ⟨fun d => ?_, fun d => bad (fun q => d q.2)⟩, fun c => bad (fun q => c q.1)⟩
    obtain ⟨es, hs⟩ := i_inI c (by omega)
    have hl := q_lack_le T (cn s) f i
    refine ⟨T, cn s, es, hs, hM, ?_⟩
    rw [show (0 : Int32) = nI 0 from rfl, n_le (by omega) (by omega)]
    refine ⟨fun z => ?_, fun z => ?_⟩
    · have z0 : q_lack T (cn s) f i = 0 := by omega
      obtain ⟨ht, hi⟩ := q_lack0 z0
      have I := MR_shI hM hs
      obtain ⟨ei, hi2⟩ := i_inI hi (by omega)
      have g1 : q_put T s f i v = 1 := by unfold q_put; rw [if_pos ⟨c, d⟩, if_pos z0]
      have g2 : u_put T s f i v = wSh T (cn s) (tsh T (cn s)) (va_up (tit T (cn s)) (cn i) (ab_narrow (tsh T (cn s)).2.1 v)) := by unfold u_put; rw [if_pos ⟨c, d⟩, if_pos z0]
      rw [g1, g2] at hk
      exact ⟨T, cn s, cn i, es, ei, hs, by omega, hM, ht, hk _ (m_put hM hs hi2 ht)⟩
    · have g1 : q_put T s f i v = q_fnd (q_lack T (cn s) f i) := by unfold q_put; rw [if_pos ⟨c, d⟩, if_neg (by omega)]
      have g2 : u_put T s f i v = wFd T (q_lack T (cn s) f i) := by unfold u_put; rw [if_pos ⟨c, d⟩, if_neg (by omega)]
      rw [g1, g2] at hk
      exact ⟨T, q_lack T (cn s) f i, hM, rfl, by omega, hk⟩
  · exact h.elim
theorem ok_X8_put : z_Ok z_shM yX8_put cX8_put 6 (some .int) ({ frames := 2, cells := 0, slots := 0, locals := 45 } : Room) 0 wp_X8_put := z_Ok_of pu_X8_put z_fX8_ok z_kX8_ok co_X8_put ⟨by decide, by decide⟩ (by decide +kernel)
theorem rec_X8_put : z_rec z_shM wp_X8_put 7 := by
  intro as S post h
  unfold wp_X8_put at h
  split at h
  · exact ⟨_, _, _, rfl, rfl⟩
  · exact h.elim
def wp_X8_get : ZW := fun as S k => match as with
  | [.ref 0, .int s, .int f, .int i] => ∃ T : ZT, MR T S ∧ ∀ S', MR (u_get T s f i) S' → k (some (.int (q_get T s f i))) S'
  | _ => False
theorem wr_X8_get {s : Int32} {f : Int32} {i : Int32} {S : ZS} {k : Option Value → ZS → Prop} : wp_X8_get [.ref 0, .int s, .int f, .int i] S k = (∃ T : ZT, MR T S ∧ ∀ S', MR (u_get T s f i) S' → k (some (.int (q_get T s f i))) S') := rfl
def cs_X8_get : List (Nat × ZC) := [(147, (1, 0, true, wp_X8_isSheet)), (94, (3, 0, true, wp_X8_in)), (247, (4, 0, false, wp_X8_lacks))]
theorem cr_X8_get_147 : cs_X8_get.lookup 147 = some (1, 0, true, wp_X8_isSheet) := rfl
theorem cr_X8_get_94 : cs_X8_get.lookup 94 = some (3, 0, true, wp_X8_in) := rfl
theorem cr_X8_get_247 : cs_X8_get.lookup 247 = some (4, 0, false, wp_X8_lacks) := rfl
set_option maxRecDepth 20000 in
theorem co_X8_get : z_csok RX8 ({ frames := 2, cells := 0, slots := 0, locals := 45 } : Room) z_shM cs_X8_get := z_cs2 (z_csS ok_X8_isSheet (z_g 866 (by decide +kernel) rfl) (z_g 867 (by decide +kernel) rfl) (z_g 51 (by decide +kernel) rfl) (z_g 868 (by decide +kernel) rfl) rfl rfl (by decide +kernel) ⟨by decide, by decide⟩)
  (z_cs2 (z_csS ok_X8_in (z_g 789 (by decide +kernel) rfl) (z_g 790 (by decide +kernel) rfl) (z_g 51 (by decide +kernel) rfl) (z_g 791 (by decide +kernel) rfl) rfl rfl (by decide +kernel) ⟨by decide, by decide⟩)
  (z_cs2 (z_csV ok_X8_lacks rec_X8_lacks rfl (z_g 1059 (by decide +kernel) rfl) (z_g 1061 (by decide +kernel) rfl) (z_g 39 (by decide +kernel) rfl) (z_g 1062 (by decide +kernel) rfl) (z_g 51 (by decide +kernel) rfl) rfl rfl (by decide +kernel) ⟨by decide, by decide⟩)
  (z_cs0)))
set_option maxHeartbeats 4000000 in
set_option maxRecDepth 20000 in
theorem pu_X8_get : z_Pure cX8_get 5 z_shM z_fX8 cs_X8_get z_kcX8 z_klX8 (some .int) 0 wp_X8_get := by
  intro as S post h
  unfold wp_X8_get at h
  split at h
  · rename_i s f i
    refine ⟨Nat.le_of_ble_eq_true rfl, fun K hK => ?_⟩
    change K 0 0 [some (.ref 0), some (.int s), some (.int f), some (.int i), none] [] S
    obtain ⟨T, hM, hk⟩ := h
    refine hK (z_in []) 60 _ _ _ _ _ (Nat.zero_le _) ?_
    simp (config := { maxSteps := 10000000 }) only [z40, z20, z10, z01, zm0, z0m, ze_s, ze_ok, zt_s, zt_t, zt_f, zl_I, zl_J, zl_R, zl_N, zl_C, zl_K, zl_M, zl_ar0, zl_ar1, zl_ar2, zl_ar3, zl_as0, zl_as1, zl_as2, zl_al, zl_gf, zl_gr, zl_pf, zl_iv, zl_ivn, zlk_n, zlk_c, ztb_n, ztb_c, zin_n, zin_1, zin_c, Int.reduceLT, decide_true, decide_false, Bool.true_and, Bool.and_true, List.length_cons, List.length_nil, Int.reduceSub, Int.reduceEq, Int.natCast_zero, zk_s, z_in_n, z_in_c, z_gt_0, z_gt_s, zst_0, zst_1, zst_s, zsl_0, zsl_1, zsl_s, zc_n, zc_i, zc_l, zc_r, zc_u, zca_n, zca_i, zca_l, zca_r, zca_u, zrt_i, zrt_z, zrt_o, z_cal_0, z_cal_s, true_and, and_true, List.nil_append, List.cons_append, Option.toList_some, Option.toList_none, Nat.reduceAdd, Nat.reduceBEq, Nat.reduceLT, Nat.reduceLeDiff, Nat.reduceSub, Int.reduceAdd, Int.reduceLE, Int.reduceToNat, Int.cast_ofNat_Int, Bool.or_true, Bool.true_or, Bool.or_false, Bool.false_or, Nat.le_refl, Nat.zero_le, or_true, true_or, or_false, false_or, not_true_eq_false, not_false_eq_true, not_false_iff, false_implies, true_implies, eq_self, zo_iconst, zo_bipush, zo_sipush, zo_lconst, zo_ldc, zo_ldc_w, zo_ldc2_w, zo_iload_n, zo_iload, zo_lload_n, zo_lload, zo_aload_n, zo_aload, zo_istore_n, zo_istore, zo_lstore_n, zo_lstore, zo_astore_n, zo_astore, zo_iinc, zo_iadd, zo_isub, zo_imul, zo_iand, zo_ior, zo_ixor, zo_ishl, zo_ishr, zo_iushr, zo_idiv, zo_irem, zo_ladd, zo_lsub, zo_lmul, zo_ldiv, zo_lrem, zo_lcmp, zo_i2l, zo_i2b, zo_i2s, zo_dup, zo_dup2, zo_aconst_null, zo_if_icmp, zo_ifCond, zo_goto, zo_ifnull, zo_ifnonnull, zo_iaload, zo_baload, zo_laload, zo_aaload, zo_iastore, zo_bastore, zo_lastore, zo_arraylength, zo_getfield, zo_putfield, zo_tableswitch, zo_lookupswitch, zo_ireturn, zo_lreturn, zo_areturn, zo_return, zo_invokestatic, zo_invokevirtual, zo_new, zo_invokespecial, zo_newarray, zo_anewarray, zo_aastore, zy_0_1, zy_0_2, zy_0_3, zy_1_1, zy_1_2, zy_2_1, zy_2_2, zy_2_3, zy_3_0, zy_4_3, zy_5_1, zy_5_2, zy_6_5, zy_6_6, zy_6_7, zy_6_8, zy_6_9, zy_6_10, zy_7_2, zy_7_6, zy_7_9, zy_7_10, zy_7_11, zy_7_12, zy_7_14, zy_7_21, zy_7_30, zq_iconst, zq_bipush, zq_sipush, zq_lconst0, zq_lconst1, zq_ldc, zq_ldc_w, zq_ldc2_w, zq_iload0, zq_iload1, zq_iload2, zq_iload3, zq_iload, zq_lload0, zq_lload1, zq_lload2, zq_lload3, zq_lload, zq_aload0, zq_aload1, zq_aload2, zq_aload3, zq_aload, zq_istore0, zq_istore1, zq_istore2, zq_istore3, zq_istore, zq_lstore0, zq_lstore1, zq_lstore2, zq_lstore3, zq_lstore, zq_astore0, zq_astore0N, zq_astore1, zq_astore1N, zq_astore2, zq_astore2N, zq_astore3, zq_astore3N, zq_astore, zq_astoreN, zq_iinc, zq_iadd, zq_isub, zq_imul, zq_iand, zq_ior, zq_ixor, zq_ishl, zq_ishr, zq_iushr, zq_idiv, zq_irem, zq_ladd, zq_lsub, zq_lmul, zq_ldiv, zq_lrem, zq_lcmp, zq_i2l, zq_i2b, zq_i2s, zq_dup_i, zq_dup_r, zq_dup2, zq_null, zq_icmp_eq, zq_if_eq, zq_icmp_ne, zq_if_ne, zq_icmp_lt, zq_if_lt, zq_icmp_ge, zq_if_ge, zq_icmp_gt, zq_if_gt, zq_icmp_le, zq_if_le, zq_goto, zq_ifnull_r, zq_ifnull_n, zq_ifnonnull_r, zq_ifnonnull_n, zq_iaload, zq_baload, zq_laload, zq_aaload, zq_iastore, zq_bastore, zq_lastore, zq_alen, zq_getf, zq_put, zq_tsw, zq_lsw, zq_ireturn, zq_lreturn, zq_areturn, zq_areturnN, zq_return, zq_invokestatic, zq_invokevirtual, zq_new, zq_invokespecial, zq_newarray, zq_anewarray, zq_aastore, zi_m1, zi_0, zi_1, zi_2, zi_3, zi_4, zi_5, zi_6, zi_8, zi_16, zb_m10, zb_m4, zb_m3, zb_m2, zb_6, zb_7, zb_8, zb_9, zb_10, zb_16, zb_20, zb_23, zb_30, zb_32, zb_35, zb_46, zb_48, zb_56, zb_57, zb_59, zb_63, zb_70, zb_98, zb_99, zb_100, zb_111, zb_112, zs_192, zs_255, zs_256, zs_511, zs_512, zs_12345, zf_X8_7_0, zf_X8_13_0, zf_X8_112_0, zf_X8_16_0, zf_X8_19_0, zf_X8_22_0, zf_X8_115_0, zf_X8_25_0, zf_X8_28_0, zf_X8_78_0, zf_X8_82_0, zf_X8_85_0, zf_X8_144_0, zf_X8_31_0, zf_X8_137_0, zf_X8_34_0, zf_X8_38_0, zf_X8_41_0, zf_X8_44_0, zf_X8_47_0, zf_X8_50_0, zf_X8_234_0, zf_X8_53_0, zf_X8_56_0, zf_X8_59_0, zf_X8_62_0, zf_X8_66_0, zf_X8_69_0, zf_X8_72_0, zf_X8_75_0, zf_X8_244_0, zkc_X8_240, zkc_X8_253, zkl_X8_92, zkl_X8_262, zkl_X8_257, za_M_1, za_M_2, za_M_3, za_M_4, za_M_5, za_M_6, za_M_7, za_M_8, za_M_9, za_M_10, za_M_11, za_M_12, za_M_13, za_M_14, za_M_15, za_M_16, za_M_17, za_M_18, za_M_19, za_M_20, za_M_21, za_M_22, dX8_get_0, dX8_get_1, dX8_get_4, dX8_get_7, dX8_get_8, dX8_get_9, dX8_get_10, dX8_get_13, dX8_get_16, dX8_get_18, dX8_get_19, dX8_get_20, dX8_get_21, dX8_get_22, dX8_get_23, dX8_get_26, dX8_get_28, dX8_get_30, dX8_get_33, dX8_get_34, dX8_get_36, dX8_get_39, dX8_get_41, dX8_get_42, dX8_get_43, dX8_get_46, dX8_get_48, dX8_get_49, dX8_get_50, dX8_get_51, dX8_get_52, dX8_get_53, cr_X8_get_147, cr_X8_get_94, cr_X8_get_247, wr_X8_isSheet, wr_X8_in, wr_X8_lacks]
    rw [w_in (m := 2) (by decide)]
    have bad : ¬ (i_in s 4 ∧ i_in f 3) → post (some (.int (-2147483648))) S := by
      intro q
      have g1 : q_get T s f i = -2147483648 := by unfold q_get; rw [if_neg (fun z => q ⟨z.1, z.2.1⟩)]
      have g2 : u_get T s f i = T := by unfold u_get; rw [if_neg (fun z => q ⟨z.1, z.2.1⟩)]
      rw [g1, g2] at hk
      exact hk S hM
    refine ⟨fun c => ⟨fun d => ?_, fun d => bad (fun q => d q.2)⟩, fun c => bad (fun q => c q.1)⟩
    obtain ⟨es, hs⟩ := i_inI c (by omega)
    have hl := q_lack_le T (cn s) f i
    refine ⟨T, cn s, es, hs, hM, ?_⟩
    rw [show (0 : Int32) = nI 0 from rfl, n_le (by omega) (by omega)]
    refine ⟨fun z => ?_, fun z => ?_⟩
    · have z0 : q_lack T (cn s) f i = 0 := by omega
      obtain ⟨ht, hi⟩ := q_lack0 z0
      have I := MR_shI hM hs
      obtain ⟨ei, hi2⟩ := i_inI hi (by omega)
      have g1 : q_get T s f i = tit T (cn s) (cn i) := by unfold q_get; rw [if_pos ⟨c, d, z0⟩]
      have g2 : u_get T s f i = T := by unfold u_get; rw [if_neg (fun q => q.2.2 z0)]
      rw [g1, g2] at hk
      have ea : (48 : Int32) * s + i = nI (48 * cn s + cn i) := by rw [es, ei, e48, ← es, ← ei]
      rw [ea, n_cl (by omega), ((MR_she hM hs).1 ht).2.2.2 (cn i) hi2]
      exact ⟨n_in (by omega) (by omega), hk S hM⟩
    · have g1 : q_get T s f i = -2147483648 := by unfold q_get; rw [if_neg (fun q => z (by rw [q.2.2]; exact Nat.le_refl _))]
      have g2 : u_get T s f i = wFd T (q_lack T (cn s) f i) := by unfold u_get; rw [if_pos ⟨c, d, by omega⟩]
      rw [g1, g2] at hk
      refine hk _ (MR_Wfd hM (by omega) ?_ (fun a ha => by dsimp only; rw [z_u_o ha]) (fun j hj => by dsimp only; rw [z_u_nj hj]))
      unfold m_fd
      simp only [z_rd, Nat.reduceEqDiff, true_and, and_true, and_self, false_and, and_false, if_true, if_false]
  · exact h.elim
theorem ok_X8_get : z_Ok z_shM yX8_get cX8_get 5 (some .int) ({ frames := 2, cells := 0, slots := 0, locals := 45 } : Room) 0 wp_X8_get := z_Ok_of pu_X8_get z_fX8_ok z_kX8_ok co_X8_get ⟨by decide, by decide⟩ (by decide +kernel)
theorem rec_X8_get : z_rec z_shM wp_X8_get 7 := by
  intro as S post h
  unfold wp_X8_get at h
  split at h
  · exact ⟨_, _, _, rfl, rfl⟩
  · exact h.elim
def wp_X8_read : ZW := fun as S k => match as with
  | [.ref 0, .int v] => ∃ T : ZT, MR T S ∧ ∀ S', MR (u_read T v) S' → k (some (.int (q_read T v))) S'
  | _ => False
theorem wr_X8_read {v : Int32} {S : ZS} {k : Option Value → ZS → Prop} : wp_X8_read [.ref 0, .int v] S k = (∃ T : ZT, MR T S ∧ ∀ S', MR (u_read T v) S' → k (some (.int (q_read T v))) S') := rfl
def cs_X8_read : List (Nat × ZC) := [(147, (1, 0, true, wp_X8_isSheet)), (150, (2, 0, false, wp_X8_meets)), (153, (2, 0, false, wp_X8_burn))]
theorem cr_X8_read_147 : cs_X8_read.lookup 147 = some (1, 0, true, wp_X8_isSheet) := rfl
theorem cr_X8_read_150 : cs_X8_read.lookup 150 = some (2, 0, false, wp_X8_meets) := rfl
theorem cr_X8_read_153 : cs_X8_read.lookup 153 = some (2, 0, false, wp_X8_burn) := rfl
set_option maxRecDepth 20000 in
theorem co_X8_read : z_csok RX8 ({ frames := 2, cells := 0, slots := 0, locals := 43 } : Room) z_shM cs_X8_read := z_cs2 (z_csS ok_X8_isSheet (z_g 866 (by decide +kernel) rfl) (z_g 867 (by decide +kernel) rfl) (z_g 51 (by decide +kernel) rfl) (z_g 868 (by decide +kernel) rfl) rfl rfl (by decide +kernel) ⟨by decide, by decide⟩)
  (z_cs2 (z_csV ok_X8_meets rec_X8_meets rfl (z_g 869 (by decide +kernel) rfl) (z_g 871 (by decide +kernel) rfl) (z_g 18 (by decide +kernel) rfl) (z_g 872 (by decide +kernel) rfl) (z_g 51 (by decide +kernel) rfl) rfl rfl (by decide +kernel) ⟨by decide, by decide⟩)
  (z_cs2 (z_csV ok_X8_burn rec_X8_burn rfl (z_g 873 (by decide +kernel) rfl) (z_g 852 (by decide +kernel) rfl) (z_g 853 (by decide +kernel) rfl) (z_g 854 (by decide +kernel) rfl) (z_g 51 (by decide +kernel) rfl) rfl rfl (by decide +kernel) ⟨by decide, by decide⟩)
  (z_cs0)))
set_option maxHeartbeats 4000000 in
set_option maxRecDepth 20000 in
theorem pu_X8_read : z_Pure cX8_read 3 z_shM z_fX8 cs_X8_read z_kcX8 z_klX8 (some .int) 0 wp_X8_read := by
  intro as S post h
  unfold wp_X8_read at h
  split at h
  · rename_i v
    refine ⟨Nat.le_of_ble_eq_true rfl, fun K hK => ?_⟩
    change K 0 0 [some (.ref 0), some (.int v), none] [] S
    obtain ⟨T, hM, hk⟩ := h
    have key : ∀ (r : Nat), r < 4 → v = nI r → ∀ (m n : Nat) (T' : ZT) (S' : ZS), n + m = (tsh T r).2.2 → (tsh T r).1 = true → MR T' S' → T'.2.2.2.2.2.1 = T.2.2.2.2.2.1 → (∀ S'', MR (rdN r m n T').1 S'' → post (some (.int (nI (rdN r m n T').2))) S'') → K 0 27 [some (.ref 0), some (.int v), some (.int (nI n))] [] S' := by
      intro r hr e m
      have I := (MR_shI hM hr).2
      have hinv : vp_in v 4 := by rw [e]; exact n_in (by omega) (by omega)
      have cv : v.toNatClampNeg = r := by rw [e]; exact n_cl (by omega)
      induction m with
      | zero =>
        intro n T' S' hn ht hM' e1 hk'
        obtain ⟨a1, a2, a3, a4⟩ := (MR_she hM' hr).1 (by unfold tsh; rw [e1]; exact ht)
        have a3 : S'.1 20 r = nI (tsh T r).2.2 := by unfold tsh at a3; rw [e1] at a3; exact a3
        refine hK (z_in [27]) 60 _ _ _ _ _ (Nat.zero_le _) ?_
        simp (config := { maxSteps := 10000000 }) only [z40, z20, z10, z01, zm0, z0m, ze_s, ze_ok, zt_s, zt_t, zt_f, zl_I, zl_J, zl_R, zl_N, zl_C, zl_K, zl_M, zl_ar0, zl_ar1, zl_ar2, zl_ar3, zl_as0, zl_as1, zl_as2, zl_al, zl_gf, zl_gr, zl_pf, zl_iv, zl_ivn, zlk_n, zlk_c, ztb_n, ztb_c, zin_n, zin_1, zin_c, Int.reduceLT, decide_true, decide_false, Bool.true_and, Bool.and_true, List.length_cons, List.length_nil, Int.reduceSub, Int.reduceEq, Int.natCast_zero, zk_s, z_in_n, z_in_c, z_gt_0, z_gt_s, zst_0, zst_1, zst_s, zsl_0, zsl_1, zsl_s, zc_n, zc_i, zc_l, zc_r, zc_u, zca_n, zca_i, zca_l, zca_r, zca_u, zrt_i, zrt_z, zrt_o, z_cal_0, z_cal_s, true_and, and_true, List.nil_append, List.cons_append, Option.toList_some, Option.toList_none, Nat.reduceAdd, Nat.reduceBEq, Nat.reduceLT, Nat.reduceLeDiff, Nat.reduceSub, Int.reduceAdd, Int.reduceLE, Int.reduceToNat, Int.cast_ofNat_Int, Bool.or_true, Bool.true_or, Bool.or_false, Bool.false_or, Nat.le_refl, Nat.zero_le, or_true, true_or, or_false, false_or, not_true_eq_false, not_false_eq_true, not_false_iff, false_implies, true_implies, eq_self, zo_iconst, zo_bipush, zo_sipush, zo_lconst, zo_ldc, zo_ldc_w, zo_ldc2_w, zo_iload_n, zo_iload, zo_lload_n, zo_lload, zo_aload_n, zo_aload, zo_istore_n, zo_istore, zo_lstore_n, zo_lstore, zo_astore_n, zo_astore, zo_iinc, zo_iadd, zo_isub, zo_imul, zo_iand, zo_ior, zo_ixor, zo_ishl, zo_ishr, zo_iushr, zo_idiv, zo_irem, zo_ladd, zo_lsub, zo_lmul, zo_ldiv, zo_lrem, zo_lcmp, zo_i2l, zo_i2b, zo_i2s, zo_dup, zo_dup2, zo_aconst_null, zo_if_icmp, zo_ifCond, zo_goto, zo_ifnull, zo_ifnonnull, zo_iaload, zo_baload, zo_laload, zo_aaload, zo_iastore, zo_bastore, zo_lastore, zo_arraylength, zo_getfield, zo_putfield, zo_tableswitch, zo_lookupswitch, zo_ireturn, zo_lreturn, zo_areturn, zo_return, zo_invokestatic, zo_invokevirtual, zo_new, zo_invokespecial, zo_newarray, zo_anewarray, zo_aastore, zy_0_1, zy_0_2, zy_0_3, zy_1_1, zy_1_2, zy_2_1, zy_2_2, zy_2_3, zy_3_0, zy_4_3, zy_5_1, zy_5_2, zy_6_5, zy_6_6, zy_6_7, zy_6_8, zy_6_9, zy_6_10, zy_7_2, zy_7_6, zy_7_9, zy_7_10, zy_7_11, zy_7_12, zy_7_14, zy_7_21, zy_7_30, zq_iconst, zq_bipush, zq_sipush, zq_lconst0, zq_lconst1, zq_ldc, zq_ldc_w, zq_ldc2_w, zq_iload0, zq_iload1, zq_iload2, zq_iload3, zq_iload, zq_lload0, zq_lload1, zq_lload2, zq_lload3, zq_lload, zq_aload0, zq_aload1, zq_aload2, zq_aload3, zq_aload, zq_istore0, zq_istore1, zq_istore2, zq_istore3, zq_istore, zq_lstore0, zq_lstore1, zq_lstore2, zq_lstore3, zq_lstore, zq_astore0, zq_astore0N, zq_astore1, zq_astore1N, zq_astore2, zq_astore2N, zq_astore3, zq_astore3N, zq_astore, zq_astoreN, zq_iinc, zq_iadd, zq_isub, zq_imul, zq_iand, zq_ior, zq_ixor, zq_ishl, zq_ishr, zq_iushr, zq_idiv, zq_irem, zq_ladd, zq_lsub, zq_lmul, zq_ldiv, zq_lrem, zq_lcmp, zq_i2l, zq_i2b, zq_i2s, zq_dup_i, zq_dup_r, zq_dup2, zq_null, zq_icmp_eq, zq_if_eq, zq_icmp_ne, zq_if_ne, zq_icmp_lt, zq_if_lt, zq_icmp_ge, zq_if_ge, zq_icmp_gt, zq_if_gt, zq_icmp_le, zq_if_le, zq_goto, zq_ifnull_r, zq_ifnull_n, zq_ifnonnull_r, zq_ifnonnull_n, zq_iaload, zq_baload, zq_laload, zq_aaload, zq_iastore, zq_bastore, zq_lastore, zq_alen, zq_getf, zq_put, zq_tsw, zq_lsw, zq_ireturn, zq_lreturn, zq_areturn, zq_areturnN, zq_return, zq_invokestatic, zq_invokevirtual, zq_new, zq_invokespecial, zq_newarray, zq_anewarray, zq_aastore, zi_m1, zi_0, zi_1, zi_2, zi_3, zi_4, zi_5, zi_6, zi_8, zi_16, zb_m10, zb_m4, zb_m3, zb_m2, zb_6, zb_7, zb_8, zb_9, zb_10, zb_16, zb_20, zb_23, zb_30, zb_32, zb_35, zb_46, zb_48, zb_56, zb_57, zb_59, zb_63, zb_70, zb_98, zb_99, zb_100, zb_111, zb_112, zs_192, zs_255, zs_256, zs_511, zs_512, zs_12345, zf_X8_7_0, zf_X8_13_0, zf_X8_112_0, zf_X8_16_0, zf_X8_19_0, zf_X8_22_0, zf_X8_115_0, zf_X8_25_0, zf_X8_28_0, zf_X8_78_0, zf_X8_82_0, zf_X8_85_0, zf_X8_144_0, zf_X8_31_0, zf_X8_137_0, zf_X8_34_0, zf_X8_38_0, zf_X8_41_0, zf_X8_44_0, zf_X8_47_0, zf_X8_50_0, zf_X8_234_0, zf_X8_53_0, zf_X8_56_0, zf_X8_59_0, zf_X8_62_0, zf_X8_66_0, zf_X8_69_0, zf_X8_72_0, zf_X8_75_0, zf_X8_244_0, zkc_X8_240, zkc_X8_253, zkl_X8_92, zkl_X8_262, zkl_X8_257, za_M_1, za_M_2, za_M_3, za_M_4, za_M_5, za_M_6, za_M_7, za_M_8, za_M_9, za_M_10, za_M_11, za_M_12, za_M_13, za_M_14, za_M_15, za_M_16, za_M_17, za_M_18, za_M_19, za_M_20, za_M_21, za_M_22, dX8_read_0, dX8_read_1, dX8_read_4, dX8_read_7, dX8_read_9, dX8_read_10, dX8_read_11, dX8_read_14, dX8_read_15, dX8_read_16, dX8_read_19, dX8_read_20, dX8_read_21, dX8_read_24, dX8_read_25, dX8_read_26, dX8_read_27, dX8_read_28, dX8_read_29, dX8_read_32, dX8_read_33, dX8_read_34, dX8_read_37, dX8_read_38, dX8_read_39, dX8_read_42, dX8_read_44, dX8_read_45, dX8_read_46, dX8_read_47, dX8_read_48, dX8_read_49, dX8_read_52, dX8_read_55, dX8_read_58, dX8_read_61, dX8_read_62, cr_X8_read_147, cr_X8_read_150, cr_X8_read_153, wr_X8_isSheet, wr_X8_meets, wr_X8_burn]
        rw [cv, a3, n_le (by omega) (by omega)]
        exact ⟨hinv, fun _ => hk' S' hM', fun c => absurd (by omega) c⟩
      | succ m ih =>
        intro n T' S' hn ht hM' e1 hk'
        obtain ⟨a1, a2, a3, a4⟩ := (MR_she hM' hr).1 (by unfold tsh; rw [e1]; exact ht)
        have a3 : S'.1 20 r = nI (tsh T r).2.2 := by unfold tsh at a3; rw [e1] at a3; exact a3
        have a5 : S'.1 21 (48 * r + n) = tit T' r n := a4 n (by unfold tsh; rw [e1]; show n < (tsh T r).2.2; omega)
        have ea : (48 : Int32) * v + nI n = nI (48 * r + n) := by rw [e, e48]
        have hin2 : vp_in (nI (48 * r + n)) 192 := n_in (by omega) (by omega)
        refine hK (z_in [27]) 60 _ _ _ _ _ (Nat.zero_le _) ?_
        simp (config := { maxSteps := 10000000 }) only [z40, z20, z10, z01, zm0, z0m, ze_s, ze_ok, zt_s, zt_t, zt_f, zl_I, zl_J, zl_R, zl_N, zl_C, zl_K, zl_M, zl_ar0, zl_ar1, zl_ar2, zl_ar3, zl_as0, zl_as1, zl_as2, zl_al, zl_gf, zl_gr, zl_pf, zl_iv, zl_ivn, zlk_n, zlk_c, ztb_n, ztb_c, zin_n, zin_1, zin_c, Int.reduceLT, decide_true, decide_false, Bool.true_and, Bool.and_true, List.length_cons, List.length_nil, Int.reduceSub, Int.reduceEq, Int.natCast_zero, zk_s, z_in_n, z_in_c, z_gt_0, z_gt_s, zst_0, zst_1, zst_s, zsl_0, zsl_1, zsl_s, zc_n, zc_i, zc_l, zc_r, zc_u, zca_n, zca_i, zca_l, zca_r, zca_u, zrt_i, zrt_z, zrt_o, z_cal_0, z_cal_s, true_and, and_true, List.nil_append, List.cons_append, Option.toList_some, Option.toList_none, Nat.reduceAdd, Nat.reduceBEq, Nat.reduceLT, Nat.reduceLeDiff, Nat.reduceSub, Int.reduceAdd, Int.reduceLE, Int.reduceToNat, Int.cast_ofNat_Int, Bool.or_true, Bool.true_or, Bool.or_false, Bool.false_or, Nat.le_refl, Nat.zero_le, or_true, true_or, or_false, false_or, not_true_eq_false, not_false_eq_true, not_false_iff, false_implies, true_implies, eq_self, zo_iconst, zo_bipush, zo_sipush, zo_lconst, zo_ldc, zo_ldc_w, zo_ldc2_w, zo_iload_n, zo_iload, zo_lload_n, zo_lload, zo_aload_n, zo_aload, zo_istore_n, zo_istore, zo_lstore_n, zo_lstore, zo_astore_n, zo_astore, zo_iinc, zo_iadd, zo_isub, zo_imul, zo_iand, zo_ior, zo_ixor, zo_ishl, zo_ishr, zo_iushr, zo_idiv, zo_irem, zo_ladd, zo_lsub, zo_lmul, zo_ldiv, zo_lrem, zo_lcmp, zo_i2l, zo_i2b, zo_i2s, zo_dup, zo_dup2, zo_aconst_null, zo_if_icmp, zo_ifCond, zo_goto, zo_ifnull, zo_ifnonnull, zo_iaload, zo_baload, zo_laload, zo_aaload, zo_iastore, zo_bastore, zo_lastore, zo_arraylength, zo_getfield, zo_putfield, zo_tableswitch, zo_lookupswitch, zo_ireturn, zo_lreturn, zo_areturn, zo_return, zo_invokestatic, zo_invokevirtual, zo_new, zo_invokespecial, zo_newarray, zo_anewarray, zo_aastore, zy_0_1, zy_0_2, zy_0_3, zy_1_1, zy_1_2, zy_2_1, zy_2_2, zy_2_3, zy_3_0, zy_4_3, zy_5_1, zy_5_2, zy_6_5, zy_6_6, zy_6_7, zy_6_8, zy_6_9, zy_6_10, zy_7_2, zy_7_6, zy_7_9, zy_7_10, zy_7_11, zy_7_12, zy_7_14, zy_7_21, zy_7_30, zq_iconst, zq_bipush, zq_sipush, zq_lconst0, zq_lconst1, zq_ldc, zq_ldc_w, zq_ldc2_w, zq_iload0, zq_iload1, zq_iload2, zq_iload3, zq_iload, zq_lload0, zq_lload1, zq_lload2, zq_lload3, zq_lload, zq_aload0, zq_aload1, zq_aload2, zq_aload3, zq_aload, zq_istore0, zq_istore1, zq_istore2, zq_istore3, zq_istore, zq_lstore0, zq_lstore1, zq_lstore2, zq_lstore3, zq_lstore, zq_astore0, zq_astore0N, zq_astore1, zq_astore1N, zq_astore2, zq_astore2N, zq_astore3, zq_astore3N, zq_astore, zq_astoreN, zq_iinc, zq_iadd, zq_isub, zq_imul, zq_iand, zq_ior, zq_ixor, zq_ishl, zq_ishr, zq_iushr, zq_idiv, zq_irem, zq_ladd, zq_lsub, zq_lmul, zq_ldiv, zq_lrem, zq_lcmp, zq_i2l, zq_i2b, zq_i2s, zq_dup_i, zq_dup_r, zq_dup2, zq_null, zq_icmp_eq, zq_if_eq, zq_icmp_ne, zq_if_ne, zq_icmp_lt, zq_if_lt, zq_icmp_ge, zq_if_ge, zq_icmp_gt, zq_if_gt, zq_icmp_le, zq_if_le, zq_goto, zq_ifnull_r, zq_ifnull_n, zq_ifnonnull_r, zq_ifnonnull_n, zq_iaload, zq_baload, zq_laload, zq_aaload, zq_iastore, zq_bastore, zq_lastore, zq_alen, zq_getf, zq_put, zq_tsw, zq_lsw, zq_ireturn, zq_lreturn, zq_areturn, zq_areturnN, zq_return, zq_invokestatic, zq_invokevirtual, zq_new, zq_invokespecial, zq_newarray, zq_anewarray, zq_aastore, zi_m1, zi_0, zi_1, zi_2, zi_3, zi_4, zi_5, zi_6, zi_8, zi_16, zb_m10, zb_m4, zb_m3, zb_m2, zb_6, zb_7, zb_8, zb_9, zb_10, zb_16, zb_20, zb_23, zb_30, zb_32, zb_35, zb_46, zb_48, zb_56, zb_57, zb_59, zb_63, zb_70, zb_98, zb_99, zb_100, zb_111, zb_112, zs_192, zs_255, zs_256, zs_511, zs_512, zs_12345, zf_X8_7_0, zf_X8_13_0, zf_X8_112_0, zf_X8_16_0, zf_X8_19_0, zf_X8_22_0, zf_X8_115_0, zf_X8_25_0, zf_X8_28_0, zf_X8_78_0, zf_X8_82_0, zf_X8_85_0, zf_X8_144_0, zf_X8_31_0, zf_X8_137_0, zf_X8_34_0, zf_X8_38_0, zf_X8_41_0, zf_X8_44_0, zf_X8_47_0, zf_X8_50_0, zf_X8_234_0, zf_X8_53_0, zf_X8_56_0, zf_X8_59_0, zf_X8_62_0, zf_X8_66_0, zf_X8_69_0, zf_X8_72_0, zf_X8_75_0, zf_X8_244_0, zkc_X8_240, zkc_X8_253, zkl_X8_92, zkl_X8_262, zkl_X8_257, za_M_1, za_M_2, za_M_3, za_M_4, za_M_5, za_M_6, za_M_7, za_M_8, za_M_9, za_M_10, za_M_11, za_M_12, za_M_13, za_M_14, za_M_15, za_M_16, za_M_17, za_M_18, za_M_19, za_M_20, za_M_21, za_M_22, dX8_read_0, dX8_read_1, dX8_read_4, dX8_read_7, dX8_read_9, dX8_read_10, dX8_read_11, dX8_read_14, dX8_read_15, dX8_read_16, dX8_read_19, dX8_read_20, dX8_read_21, dX8_read_24, dX8_read_25, dX8_read_26, dX8_read_27, dX8_read_28, dX8_read_29, dX8_read_32, dX8_read_33, dX8_read_34, dX8_read_37, dX8_read_38, dX8_read_39, dX8_read_42, dX8_read_44, dX8_read_45, dX8_read_46, dX8_read_47, dX8_read_48, dX8_read_49, dX8_read_52, dX8_read_55, dX8_read_58, dX8_read_61, dX8_read_62, cr_X8_read_147, cr_X8_read_150, cr_X8_read_153, wr_X8_isSheet, wr_X8_meets, wr_X8_burn]
        rw [cv, a3, n_le (by omega) (by omega), ea, n_cl (by omega), a5]
        refine ⟨hinv, fun c => absurd c (by omega), fun _ => ⟨hin2, T', hM', fun S2 hM2 => ?_⟩⟩
        unfold rdN at hk'
        have tnb9 : tnb T' ≤ 9 := hM'.1.2.2.2.1.1
        by_cases c : i_in (tit T' r n) 9 ∧ (tB T').testBit (cn (tit T' r n)) = false
        · rw [if_pos c] at hk'
          have g1 : q_burn T' (tit T' r n) = nI (tnb T' + 1) := by unfold q_burn; rw [if_pos c]
          have g2 : (u_burn T' (tit T' r n)).2.2.2.2.2.1 = T'.2.2.2.2.2.1 := by unfold u_burn; rw [if_pos c]
          rw [g1, nI_1]
          refine ⟨fun q => absurd q (by rw [show (0 : Int32) = nI 0 from rfl, n_le (by omega) (by omega)]; omega), fun _ => ih (n + 1) _ S2 (by omega) ht hM2 (g2.trans e1) hk'⟩
        · rw [if_neg c] at hk'
          have g1 : q_burn T' (tit T' r n) = -2 := by unfold q_burn; rw [if_neg c]
          have g2 : u_burn T' (tit T' r n) = T' := by unfold u_burn; rw [if_neg c]
          rw [g1]
          rw [g2] at hM2
          exact ⟨fun _ => hk' S2 hM2, fun q => absurd (by decide) q⟩
    refine hK (z_in [27]) 60 _ _ _ _ _ (Nat.zero_le _) ?_
    simp (config := { maxSteps := 10000000 }) only [z40, z20, z10, z01, zm0, z0m, ze_s, ze_ok, zt_s, zt_t, zt_f, zl_I, zl_J, zl_R, zl_N, zl_C, zl_K, zl_M, zl_ar0, zl_ar1, zl_ar2, zl_ar3, zl_as0, zl_as1, zl_as2, zl_al, zl_gf, zl_gr, zl_pf, zl_iv, zl_ivn, zlk_n, zlk_c, ztb_n, ztb_c, zin_n, zin_1, zin_c, Int.reduceLT, decide_true, decide_false, Bool.true_and, Bool.and_true, List.length_cons, List.length_nil, Int.reduceSub, Int.reduceEq, Int.natCast_zero, zk_s, z_in_n, z_in_c, z_gt_0, z_gt_s, zst_0, zst_1, zst_s, zsl_0, zsl_1, zsl_s, zc_n, zc_i, zc_l, zc_r, zc_u, zca_n, zca_i, zca_l, zca_r, zca_u, zrt_i, zrt_z, zrt_o, z_cal_0, z_cal_s, true_and, and_true, List.nil_append, List.cons_append, Option.toList_some, Option.toList_none, Nat.reduceAdd, Nat.reduceBEq, Nat.reduceLT, Nat.reduceLeDiff, Nat.reduceSub, Int.reduceAdd, Int.reduceLE, Int.reduceToNat, Int.cast_ofNat_Int, Bool.or_true, Bool.true_or, Bool.or_false, Bool.false_or, Nat.le_refl, Nat.zero_le, or_true, true_or, or_false, false_or, not_true_eq_false, not_false_eq_true, not_false_iff, false_implies, true_implies, eq_self, zo_iconst, zo_bipush, zo_sipush, zo_lconst, zo_ldc, zo_ldc_w, zo_ldc2_w, zo_iload_n, zo_iload, zo_lload_n, zo_lload, zo_aload_n, zo_aload, zo_istore_n, zo_istore, zo_lstore_n, zo_lstore, zo_astore_n, zo_astore, zo_iinc, zo_iadd, zo_isub, zo_imul, zo_iand, zo_ior, zo_ixor, zo_ishl, zo_ishr, zo_iushr, zo_idiv, zo_irem, zo_ladd, zo_lsub, zo_lmul, zo_ldiv, zo_lrem, zo_lcmp, zo_i2l, zo_i2b, zo_i2s, zo_dup, zo_dup2, zo_aconst_null, zo_if_icmp, zo_ifCond, zo_goto, zo_ifnull, zo_ifnonnull, zo_iaload, zo_baload, zo_laload, zo_aaload, zo_iastore, zo_bastore, zo_lastore, zo_arraylength, zo_getfield, zo_putfield, zo_tableswitch, zo_lookupswitch, zo_ireturn, zo_lreturn, zo_areturn, zo_return, zo_invokestatic, zo_invokevirtual, zo_new, zo_invokespecial, zo_newarray, zo_anewarray, zo_aastore, zy_0_1, zy_0_2, zy_0_3, zy_1_1, zy_1_2, zy_2_1, zy_2_2, zy_2_3, zy_3_0, zy_4_3, zy_5_1, zy_5_2, zy_6_5, zy_6_6, zy_6_7, zy_6_8, zy_6_9, zy_6_10, zy_7_2, zy_7_6, zy_7_9, zy_7_10, zy_7_11, zy_7_12, zy_7_14, zy_7_21, zy_7_30, zq_iconst, zq_bipush, zq_sipush, zq_lconst0, zq_lconst1, zq_ldc, zq_ldc_w, zq_ldc2_w, zq_iload0, zq_iload1, zq_iload2, zq_iload3, zq_iload, zq_lload0, zq_lload1, zq_lload2, zq_lload3, zq_lload, zq_aload0, zq_aload1, zq_aload2, zq_aload3, zq_aload, zq_istore0, zq_istore1, zq_istore2, zq_istore3, zq_istore, zq_lstore0, zq_lstore1, zq_lstore2, zq_lstore3, zq_lstore, zq_astore0, zq_astore0N, zq_astore1, zq_astore1N, zq_astore2, zq_astore2N, zq_astore3, zq_astore3N, zq_astore, zq_astoreN, zq_iinc, zq_iadd, zq_isub, zq_imul, zq_iand, zq_ior, zq_ixor, zq_ishl, zq_ishr, zq_iushr, zq_idiv, zq_irem, zq_ladd, zq_lsub, zq_lmul, zq_ldiv, zq_lrem, zq_lcmp, zq_i2l, zq_i2b, zq_i2s, zq_dup_i, zq_dup_r, zq_dup2, zq_null, zq_icmp_eq, zq_if_eq, zq_icmp_ne, zq_if_ne, zq_icmp_lt, zq_if_lt, zq_icmp_ge, zq_if_ge, zq_icmp_gt, zq_if_gt, zq_icmp_le, zq_if_le, zq_goto, zq_ifnull_r, zq_ifnull_n, zq_ifnonnull_r, zq_ifnonnull_n, zq_iaload, zq_baload, zq_laload, zq_aaload, zq_iastore, zq_bastore, zq_lastore, zq_alen, zq_getf, zq_put, zq_tsw, zq_lsw, zq_ireturn, zq_lreturn, zq_areturn, zq_areturnN, zq_return, zq_invokestatic, zq_invokevirtual, zq_new, zq_invokespecial, zq_newarray, zq_anewarray, zq_aastore, zi_m1, zi_0, zi_1, zi_2, zi_3, zi_4, zi_5, zi_6, zi_8, zi_16, zb_m10, zb_m4, zb_m3, zb_m2, zb_6, zb_7, zb_8, zb_9, zb_10, zb_16, zb_20, zb_23, zb_30, zb_32, zb_35, zb_46, zb_48, zb_56, zb_57, zb_59, zb_63, zb_70, zb_98, zb_99, zb_100, zb_111, zb_112, zs_192, zs_255, zs_256, zs_511, zs_512, zs_12345, zf_X8_7_0, zf_X8_13_0, zf_X8_112_0, zf_X8_16_0, zf_X8_19_0, zf_X8_22_0, zf_X8_115_0, zf_X8_25_0, zf_X8_28_0, zf_X8_78_0, zf_X8_82_0, zf_X8_85_0, zf_X8_144_0, zf_X8_31_0, zf_X8_137_0, zf_X8_34_0, zf_X8_38_0, zf_X8_41_0, zf_X8_44_0, zf_X8_47_0, zf_X8_50_0, zf_X8_234_0, zf_X8_53_0, zf_X8_56_0, zf_X8_59_0, zf_X8_62_0, zf_X8_66_0, zf_X8_69_0, zf_X8_72_0, zf_X8_75_0, zf_X8_244_0, zkc_X8_240, zkc_X8_253, zkl_X8_92, zkl_X8_262, zkl_X8_257, za_M_1, za_M_2, za_M_3, za_M_4, za_M_5, za_M_6, za_M_7, za_M_8, za_M_9, za_M_10, za_M_11, za_M_12, za_M_13, za_M_14, za_M_15, za_M_16, za_M_17, za_M_18, za_M_19, za_M_20, za_M_21, za_M_22, dX8_read_0, dX8_read_1, dX8_read_4, dX8_read_7, dX8_read_9, dX8_read_10, dX8_read_11, dX8_read_14, dX8_read_15, dX8_read_16, dX8_read_19, dX8_read_20, dX8_read_21, dX8_read_24, dX8_read_25, dX8_read_26, dX8_read_27, dX8_read_28, dX8_read_29, dX8_read_32, dX8_read_33, dX8_read_34, dX8_read_37, dX8_read_38, dX8_read_39, dX8_read_42, dX8_read_44, dX8_read_45, dX8_read_46, dX8_read_47, dX8_read_48, dX8_read_49, dX8_read_52, dX8_read_55, dX8_read_58, dX8_read_61, dX8_read_62, cr_X8_read_147, cr_X8_read_150, cr_X8_read_153, wr_X8_isSheet, wr_X8_meets, wr_X8_burn]
    refine ⟨fun c => ?_, fun c => ?_⟩
    · obtain ⟨es, hs⟩ := i_inI c (by omega)
      have hin : vp_in v 4 := by rw [es]; exact n_in (by omega) (by omega)
      refine ⟨hin, fun l => ?_, fun l => ?_⟩
      · have hl := (MR_lost hM hs).mp l
        have g1 : q_read T v = q_fnd 1 := by unfold q_read; rw [if_pos c, if_neg (by rw [hl]; decide)]
        have g2 : u_read T v = wFd T 1 := by unfold u_read; rw [if_pos c, if_neg (by rw [hl]; decide)]
        rw [g1, g2] at hk
        exact ⟨T, 1, hM, rfl, by omega, hk⟩
      · have ht := MR_there hM hs l
        have g1 : q_read T v = nI (rdN (cn v) (tsh T (cn v)).2.2 0 T).2 := by unfold q_read; rw [if_pos c, if_pos ht]
        have g2 : u_read T v = (rdN (cn v) (tsh T (cn v)).2.2 0 T).1 := by unfold u_read; rw [if_pos c, if_pos ht]
        rw [g1, g2] at hk
        exact key (cn v) hs es _ 0 T S (by omega) ht hM rfl hk
    · have g1 : q_read T v = -2 := by unfold q_read; rw [if_neg c]
      have g2 : u_read T v = T := by unfold u_read; rw [if_neg c]
      rw [g1, g2] at hk
      exact hk S hM
  · exact h.elim
theorem ok_X8_read : z_Ok z_shM yX8_read cX8_read 3 (some .int) ({ frames := 2, cells := 0, slots := 0, locals := 43 } : Room) 0 wp_X8_read := z_Ok_of pu_X8_read z_fX8_ok z_kX8_ok co_X8_read ⟨by decide, by decide⟩ (by decide +kernel)
theorem rec_X8_read : z_rec z_shM wp_X8_read 7 := by
  intro as S post h
  unfold wp_X8_read at h
  split at h
  · exact ⟨_, _, _, rfl, rfl⟩
  · exact h.elim
theorem m_row0 {T : ZT} {S : ZS} (hM : MR T S) {n : Nat} (hn : n < 4) {f : Nat → Int32} (hf : ∀ i, i < (tsh T n).2.2 → f i = tit T n i) : MR (wSh T n (tsh T n) f) S := by
  obtain ⟨h1, h2⟩ := MR_she hM hn
  refine MR_Wsh hM hn (MR_shI hM hn) ?_ (fun x hx hxr => ⟨rfl, rfl, rfl, fun i hi => rfl⟩) (fun a ha => rfl)
  unfold m_she
  dsimp only [wSh, tsh, tit]
  simp only [va_up_self]
  exact ⟨fun t => ⟨(h1 t).1, (h1 t).2.1, (h1 t).2.2.1, fun i hi => ((h1 t).2.2.2 i hi).trans (hf i hi).symm⟩, h2⟩
def wp_X8_write : ZW := fun as S k => match as with
  | [.ref 0, .int a, .int s] => ∃ T : ZT, MR T S ∧ ∀ S', MR (u_write T a s) S' → k (some (.int (q_write T a s))) S'
  | _ => False
theorem wr_X8_write {a : Int32} {s : Int32} {S : ZS} {k : Option Value → ZS → Prop} : wp_X8_write [.ref 0, .int a, .int s] S k = (∃ T : ZT, MR T S ∧ ∀ S', MR (u_write T a s) S' → k (some (.int (q_write T a s))) S') := rfl
def cs_X8_write : List (Nat × ZC) := [(134, (2, 0, false, wp_X8_isKing)), (147, (1, 0, true, wp_X8_isSheet)), (150, (2, 0, false, wp_X8_meets)), (160, (1, 0, false, wp_X8_leftNow)), (192, (4, 0, false, wp_X8_actOf)), (250, (4, 0, false, wp_X8_keep))]
theorem cr_X8_write_134 : cs_X8_write.lookup 134 = some (2, 0, false, wp_X8_isKing) := rfl
theorem cr_X8_write_147 : cs_X8_write.lookup 147 = some (1, 0, true, wp_X8_isSheet) := rfl
theorem cr_X8_write_150 : cs_X8_write.lookup 150 = some (2, 0, false, wp_X8_meets) := rfl
theorem cr_X8_write_160 : cs_X8_write.lookup 160 = some (1, 0, false, wp_X8_leftNow) := rfl
theorem cr_X8_write_192 : cs_X8_write.lookup 192 = some (4, 0, false, wp_X8_actOf) := rfl
theorem cr_X8_write_250 : cs_X8_write.lookup 250 = some (4, 0, false, wp_X8_keep) := rfl
set_option maxRecDepth 20000 in
theorem co_X8_write : z_csok RX8 ({ frames := 9, cells := 0, slots := 0, locals := 218 } : Room) z_shM cs_X8_write := z_cs2 (z_csV ok_X8_isKing rec_X8_isKing rfl (z_g 843 (by decide +kernel) rfl) (z_g 845 (by decide +kernel) rfl) (z_g 17 (by decide +kernel) rfl) (z_g 846 (by decide +kernel) rfl) (z_g 51 (by decide +kernel) rfl) rfl rfl (by decide +kernel) ⟨by decide, by decide⟩)
  (z_cs2 (z_csS ok_X8_isSheet (z_g 866 (by decide +kernel) rfl) (z_g 867 (by decide +kernel) rfl) (z_g 51 (by decide +kernel) rfl) (z_g 868 (by decide +kernel) rfl) rfl rfl (by decide +kernel) ⟨by decide, by decide⟩)
  (z_cs2 (z_csV ok_X8_meets rec_X8_meets rfl (z_g 869 (by decide +kernel) rfl) (z_g 871 (by decide +kernel) rfl) (z_g 18 (by decide +kernel) rfl) (z_g 872 (by decide +kernel) rfl) (z_g 51 (by decide +kernel) rfl) rfl rfl (by decide +kernel) ⟨by decide, by decide⟩)
  (z_cs2 (z_csV ok_X8_leftNow rec_X8_leftNow rfl (z_g 878 (by decide +kernel) rfl) (z_g 880 (by decide +kernel) rfl) (z_g 19 (by decide +kernel) rfl) (z_g 881 (by decide +kernel) rfl) (z_g 51 (by decide +kernel) rfl) rfl rfl (by decide +kernel) ⟨by decide, by decide⟩)
  (z_cs2 (z_csV ok_X8_actOf rec_X8_actOf rfl (z_g 937 (by decide +kernel) rfl) (z_g 939 (by decide +kernel) rfl) (z_g 27 (by decide +kernel) rfl) (z_g 940 (by decide +kernel) rfl) (z_g 51 (by decide +kernel) rfl) rfl rfl (by decide +kernel) ⟨by decide, by decide⟩)
  (z_cs2 (z_csV ok_X8_keep rec_X8_keep rfl (z_g 1063 (by decide +kernel) rfl) (z_g 1065 (by decide +kernel) rfl) (z_g 40 (by decide +kernel) rfl) (z_g 1066 (by decide +kernel) rfl) (z_g 51 (by decide +kernel) rfl) rfl rfl (by decide +kernel) ⟨by decide, by decide⟩)
  (z_cs0))))))
set_option maxHeartbeats 4000000 in
set_option maxRecDepth 20000 in
theorem pu_X8_write : z_Pure cX8_write 5 z_shM z_fX8 cs_X8_write z_kcX8 z_klX8 (some .int) 0 wp_X8_write := by
  intro as S post h
  unfold wp_X8_write at h
  split at h
  · rename_i a s
    refine ⟨Nat.le_of_ble_eq_true rfl, fun K hK => ?_⟩
    change K 0 0 [some (.ref 0), some (.int a), some (.int s), none, none] [] S
    obtain ⟨T, hM, hk⟩ := h
    have hM6 := MR_M hM
    have bad : ¬ (i_in a (tM T) ∧ i_in s 4) → ∀ S', MR T S' → post (some (.int (-2))) S' := by
      intro q
      have g1 : q_write T a s = -2 := by unfold q_write; rw [if_neg q]
      have g2 : u_write T a s = T := by unfold u_write; rw [if_neg q]
      rw [g1, g2] at hk
      exact hk
    have key : ∀ (r : Nat), r < 4 → s = nI r → i_in a (tM T) → (tsh T r).1 = true → ∀ (m i : Nat) (S' : ZS), i + m = (tsh T r).2.2 → MR (wSh T r (tsh T r) (fun p => if p < i then nI (tA T (cn a) (tL T) p) else tit T r p)) S' → K 0 41 [some (.ref 0), some (.int a), some (.int s), some (.int (nI (tL T))), some (.int (nI i))] [] S' := by
      intro r hr e ha ht m
      have I := MR_shI hM hr
      obtain ⟨c, ecn⟩ := s_c hr e
      obtain ⟨ea, ha2⟩ := i_inI ha (by omega)
      have hin : vp_in s 4 := by rw [e]; exact n_in (by omega) (by omega)
      induction m with
      | zero =>
        intro i S' hi hM'
        have b := MR_she hM' hr
        unfold m_she at b
        dsimp only [wSh, tsh, tit] at b
        simp only [va_up_self] at b
        have b3 : S'.1 20 r = nI (tsh T r).2.2 := (b.1 ht).2.2.1
        have g1 : q_write T a s = nI (tsh T r).2.2 := by unfold q_write; rw [if_pos ⟨ha, c⟩, ecn, if_pos ht]
        have g2 : u_write T a s = wSh T r (tsh T r) (fun p => if p < (tsh T r).2.2 then nI (tA T (cn a) (tL T) p) else tit T r p) := by unfold u_write; rw [if_pos ⟨ha, c⟩, ecn, if_pos ht]
        rw [g1, g2] at hk
        refine hK (z_in [41]) 60 _ _ _ _ _ (Nat.zero_le _) ?_
        simp (config := { maxSteps := 10000000 }) only [z40, z20, z10, z01, zm0, z0m, ze_s, ze_ok, zt_s, zt_t, zt_f, zl_I, zl_J, zl_R, zl_N, zl_C, zl_K, zl_M, zl_ar0, zl_ar1, zl_ar2, zl_ar3, zl_as0, zl_as1, zl_as2, zl_al, zl_gf, zl_gr, zl_pf, zl_iv, zl_ivn, zlk_n, zlk_c, ztb_n, ztb_c, zin_n, zin_1, zin_c, Int.reduceLT, decide_true, decide_false, Bool.true_and, Bool.and_true, List.length_cons, List.length_nil, Int.reduceSub, Int.reduceEq, Int.natCast_zero, zk_s, z_in_n, z_in_c, z_gt_0, z_gt_s, zst_0, zst_1, zst_s, zsl_0, zsl_1, zsl_s, zc_n, zc_i, zc_l, zc_r, zc_u, zca_n, zca_i, zca_l, zca_r, zca_u, zrt_i, zrt_z, zrt_o, z_cal_0, z_cal_s, true_and, and_true, List.nil_append, List.cons_append, Option.toList_some, Option.toList_none, Nat.reduceAdd, Nat.reduceBEq, Nat.reduceLT, Nat.reduceLeDiff, Nat.reduceSub, Int.reduceAdd, Int.reduceLE, Int.reduceToNat, Int.cast_ofNat_Int, Bool.or_true, Bool.true_or, Bool.or_false, Bool.false_or, Nat.le_refl, Nat.zero_le, or_true, true_or, or_false, false_or, not_true_eq_false, not_false_eq_true, not_false_iff, false_implies, true_implies, eq_self, zo_iconst, zo_bipush, zo_sipush, zo_lconst, zo_ldc, zo_ldc_w, zo_ldc2_w, zo_iload_n, zo_iload, zo_lload_n, zo_lload, zo_aload_n, zo_aload, zo_istore_n, zo_istore, zo_lstore_n, zo_lstore, zo_astore_n, zo_astore, zo_iinc, zo_iadd, zo_isub, zo_imul, zo_iand, zo_ior, zo_ixor, zo_ishl, zo_ishr, zo_iushr, zo_idiv, zo_irem, zo_ladd, zo_lsub, zo_lmul, zo_ldiv, zo_lrem, zo_lcmp, zo_i2l, zo_i2b, zo_i2s, zo_dup, zo_dup2, zo_aconst_null, zo_if_icmp, zo_ifCond, zo_goto, zo_ifnull, zo_ifnonnull, zo_iaload, zo_baload, zo_laload, zo_aaload, zo_iastore, zo_bastore, zo_lastore, zo_arraylength, zo_getfield, zo_putfield, zo_tableswitch, zo_lookupswitch, zo_ireturn, zo_lreturn, zo_areturn, zo_return, zo_invokestatic, zo_invokevirtual, zo_new, zo_invokespecial, zo_newarray, zo_anewarray, zo_aastore, zy_0_1, zy_0_2, zy_0_3, zy_1_1, zy_1_2, zy_2_1, zy_2_2, zy_2_3, zy_3_0, zy_4_3, zy_5_1, zy_5_2, zy_6_5, zy_6_6, zy_6_7, zy_6_8, zy_6_9, zy_6_10, zy_7_2, zy_7_6, zy_7_9, zy_7_10, zy_7_11, zy_7_12, zy_7_14, zy_7_21, zy_7_30, zq_iconst, zq_bipush, zq_sipush, zq_lconst0, zq_lconst1, zq_ldc, zq_ldc_w, zq_ldc2_w, zq_iload0, zq_iload1, zq_iload2, zq_iload3, zq_iload, zq_lload0, zq_lload1, zq_lload2, zq_lload3, zq_lload, zq_aload0, zq_aload1, zq_aload2, zq_aload3, zq_aload, zq_istore0, zq_istore1, zq_istore2, zq_istore3, zq_istore, zq_lstore0, zq_lstore1, zq_lstore2, zq_lstore3, zq_lstore, zq_astore0, zq_astore0N, zq_astore1, zq_astore1N, zq_astore2, zq_astore2N, zq_astore3, zq_astore3N, zq_astore, zq_astoreN, zq_iinc, zq_iadd, zq_isub, zq_imul, zq_iand, zq_ior, zq_ixor, zq_ishl, zq_ishr, zq_iushr, zq_idiv, zq_irem, zq_ladd, zq_lsub, zq_lmul, zq_ldiv, zq_lrem, zq_lcmp, zq_i2l, zq_i2b, zq_i2s, zq_dup_i, zq_dup_r, zq_dup2, zq_null, zq_icmp_eq, zq_if_eq, zq_icmp_ne, zq_if_ne, zq_icmp_lt, zq_if_lt, zq_icmp_ge, zq_if_ge, zq_icmp_gt, zq_if_gt, zq_icmp_le, zq_if_le, zq_goto, zq_ifnull_r, zq_ifnull_n, zq_ifnonnull_r, zq_ifnonnull_n, zq_iaload, zq_baload, zq_laload, zq_aaload, zq_iastore, zq_bastore, zq_lastore, zq_alen, zq_getf, zq_put, zq_tsw, zq_lsw, zq_ireturn, zq_lreturn, zq_areturn, zq_areturnN, zq_return, zq_invokestatic, zq_invokevirtual, zq_new, zq_invokespecial, zq_newarray, zq_anewarray, zq_aastore, zi_m1, zi_0, zi_1, zi_2, zi_3, zi_4, zi_5, zi_6, zi_8, zi_16, zb_m10, zb_m4, zb_m3, zb_m2, zb_6, zb_7, zb_8, zb_9, zb_10, zb_16, zb_20, zb_23, zb_30, zb_32, zb_35, zb_46, zb_48, zb_56, zb_57, zb_59, zb_63, zb_70, zb_98, zb_99, zb_100, zb_111, zb_112, zs_192, zs_255, zs_256, zs_511, zs_512, zs_12345, zf_X8_7_0, zf_X8_13_0, zf_X8_112_0, zf_X8_16_0, zf_X8_19_0, zf_X8_22_0, zf_X8_115_0, zf_X8_25_0, zf_X8_28_0, zf_X8_78_0, zf_X8_82_0, zf_X8_85_0, zf_X8_144_0, zf_X8_31_0, zf_X8_137_0, zf_X8_34_0, zf_X8_38_0, zf_X8_41_0, zf_X8_44_0, zf_X8_47_0, zf_X8_50_0, zf_X8_234_0, zf_X8_53_0, zf_X8_56_0, zf_X8_59_0, zf_X8_62_0, zf_X8_66_0, zf_X8_69_0, zf_X8_72_0, zf_X8_75_0, zf_X8_244_0, zkc_X8_240, zkc_X8_253, zkl_X8_92, zkl_X8_262, zkl_X8_257, za_M_1, za_M_2, za_M_3, za_M_4, za_M_5, za_M_6, za_M_7, za_M_8, za_M_9, za_M_10, za_M_11, za_M_12, za_M_13, za_M_14, za_M_15, za_M_16, za_M_17, za_M_18, za_M_19, za_M_20, za_M_21, za_M_22, dX8_write_0, dX8_write_1, dX8_write_2, dX8_write_5, dX8_write_8, dX8_write_9, dX8_write_12, dX8_write_15, dX8_write_17, dX8_write_18, dX8_write_19, dX8_write_22, dX8_write_23, dX8_write_24, dX8_write_27, dX8_write_28, dX8_write_29, dX8_write_32, dX8_write_33, dX8_write_34, dX8_write_37, dX8_write_38, dX8_write_39, dX8_write_41, dX8_write_43, dX8_write_44, dX8_write_47, dX8_write_48, dX8_write_49, dX8_write_52, dX8_write_53, dX8_write_54, dX8_write_56, dX8_write_57, dX8_write_58, dX8_write_59, dX8_write_61, dX8_write_64, dX8_write_67, dX8_write_70, dX8_write_73, dX8_write_74, dX8_write_77, dX8_write_78, dX8_write_79, cr_X8_write_134, cr_X8_write_147, cr_X8_write_150, cr_X8_write_160, cr_X8_write_192, cr_X8_write_250, wr_X8_isKing, wr_X8_isSheet, wr_X8_meets, wr_X8_leftNow, wr_X8_actOf, wr_X8_keep]
        obtain rfl : i = (tsh T r).2.2 := by omega
        rw [show s.toNatClampNeg = r from ecn, b3, n_le (by omega) (by omega)]
        exact ⟨hin, fun _ => ⟨hin, hk S' hM'⟩, fun q => absurd (Nat.le_refl _) q⟩
      | succ m ih =>
        intro i S' hi hM'
        have b := MR_she hM' hr
        unfold m_she at b
        dsimp only [wSh, tsh, tit] at b
        simp only [va_up_self] at b
        have b3 : S'.1 20 r = nI (tsh T r).2.2 := (b.1 ht).2.2.1
        refine hK (z_in [41]) 60 _ _ _ _ _ (Nat.zero_le _) ?_
        simp (config := { maxSteps := 10000000 }) only [z40, z20, z10, z01, zm0, z0m, ze_s, ze_ok, zt_s, zt_t, zt_f, zl_I, zl_J, zl_R, zl_N, zl_C, zl_K, zl_M, zl_ar0, zl_ar1, zl_ar2, zl_ar3, zl_as0, zl_as1, zl_as2, zl_al, zl_gf, zl_gr, zl_pf, zl_iv, zl_ivn, zlk_n, zlk_c, ztb_n, ztb_c, zin_n, zin_1, zin_c, Int.reduceLT, decide_true, decide_false, Bool.true_and, Bool.and_true, List.length_cons, List.length_nil, Int.reduceSub, Int.reduceEq, Int.natCast_zero, zk_s, z_in_n, z_in_c, z_gt_0, z_gt_s, zst_0, zst_1, zst_s, zsl_0, zsl_1, zsl_s, zc_n, zc_i, zc_l, zc_r, zc_u, zca_n, zca_i, zca_l, zca_r, zca_u, zrt_i, zrt_z, zrt_o, z_cal_0, z_cal_s, true_and, and_true, List.nil_append, List.cons_append, Option.toList_some, Option.toList_none, Nat.reduceAdd, Nat.reduceBEq, Nat.reduceLT, Nat.reduceLeDiff, Nat.reduceSub, Int.reduceAdd, Int.reduceLE, Int.reduceToNat, Int.cast_ofNat_Int, Bool.or_true, Bool.true_or, Bool.or_false, Bool.false_or, Nat.le_refl, Nat.zero_le, or_true, true_or, or_false, false_or, not_true_eq_false, not_false_eq_true, not_false_iff, false_implies, true_implies, eq_self, zo_iconst, zo_bipush, zo_sipush, zo_lconst, zo_ldc, zo_ldc_w, zo_ldc2_w, zo_iload_n, zo_iload, zo_lload_n, zo_lload, zo_aload_n, zo_aload, zo_istore_n, zo_istore, zo_lstore_n, zo_lstore, zo_astore_n, zo_astore, zo_iinc, zo_iadd, zo_isub, zo_imul, zo_iand, zo_ior, zo_ixor, zo_ishl, zo_ishr, zo_iushr, zo_idiv, zo_irem, zo_ladd, zo_lsub, zo_lmul, zo_ldiv, zo_lrem, zo_lcmp, zo_i2l, zo_i2b, zo_i2s, zo_dup, zo_dup2, zo_aconst_null, zo_if_icmp, zo_ifCond, zo_goto, zo_ifnull, zo_ifnonnull, zo_iaload, zo_baload, zo_laload, zo_aaload, zo_iastore, zo_bastore, zo_lastore, zo_arraylength, zo_getfield, zo_putfield, zo_tableswitch, zo_lookupswitch, zo_ireturn, zo_lreturn, zo_areturn, zo_return, zo_invokestatic, zo_invokevirtual, zo_new, zo_invokespecial, zo_newarray, zo_anewarray, zo_aastore, zy_0_1, zy_0_2, zy_0_3, zy_1_1, zy_1_2, zy_2_1, zy_2_2, zy_2_3, zy_3_0, zy_4_3, zy_5_1, zy_5_2, zy_6_5, zy_6_6, zy_6_7, zy_6_8, zy_6_9, zy_6_10, zy_7_2, zy_7_6, zy_7_9, zy_7_10, zy_7_11, zy_7_12, zy_7_14, zy_7_21, zy_7_30, zq_iconst, zq_bipush, zq_sipush, zq_lconst0, zq_lconst1, zq_ldc, zq_ldc_w, zq_ldc2_w, zq_iload0, zq_iload1, zq_iload2, zq_iload3, zq_iload, zq_lload0, zq_lload1, zq_lload2, zq_lload3, zq_lload, zq_aload0, zq_aload1, zq_aload2, zq_aload3, zq_aload, zq_istore0, zq_istore1, zq_istore2, zq_istore3, zq_istore, zq_lstore0, zq_lstore1, zq_lstore2, zq_lstore3, zq_lstore, zq_astore0, zq_astore0N, zq_astore1, zq_astore1N, zq_astore2, zq_astore2N, zq_astore3, zq_astore3N, zq_astore, zq_astoreN, zq_iinc, zq_iadd, zq_isub, zq_imul, zq_iand, zq_ior, zq_ixor, zq_ishl, zq_ishr, zq_iushr, zq_idiv, zq_irem, zq_ladd, zq_lsub, zq_lmul, zq_ldiv, zq_lrem, zq_lcmp, zq_i2l, zq_i2b, zq_i2s, zq_dup_i, zq_dup_r, zq_dup2, zq_null, zq_icmp_eq, zq_if_eq, zq_icmp_ne, zq_if_ne, zq_icmp_lt, zq_if_lt, zq_icmp_ge, zq_if_ge, zq_icmp_gt, zq_if_gt, zq_icmp_le, zq_if_le, zq_goto, zq_ifnull_r, zq_ifnull_n, zq_ifnonnull_r, zq_ifnonnull_n, zq_iaload, zq_baload, zq_laload, zq_aaload, zq_iastore, zq_bastore, zq_lastore, zq_alen, zq_getf, zq_put, zq_tsw, zq_lsw, zq_ireturn, zq_lreturn, zq_areturn, zq_areturnN, zq_return, zq_invokestatic, zq_invokevirtual, zq_new, zq_invokespecial, zq_newarray, zq_anewarray, zq_aastore, zi_m1, zi_0, zi_1, zi_2, zi_3, zi_4, zi_5, zi_6, zi_8, zi_16, zb_m10, zb_m4, zb_m3, zb_m2, zb_6, zb_7, zb_8, zb_9, zb_10, zb_16, zb_20, zb_23, zb_30, zb_32, zb_35, zb_46, zb_48, zb_56, zb_57, zb_59, zb_63, zb_70, zb_98, zb_99, zb_100, zb_111, zb_112, zs_192, zs_255, zs_256, zs_511, zs_512, zs_12345, zf_X8_7_0, zf_X8_13_0, zf_X8_112_0, zf_X8_16_0, zf_X8_19_0, zf_X8_22_0, zf_X8_115_0, zf_X8_25_0, zf_X8_28_0, zf_X8_78_0, zf_X8_82_0, zf_X8_85_0, zf_X8_144_0, zf_X8_31_0, zf_X8_137_0, zf_X8_34_0, zf_X8_38_0, zf_X8_41_0, zf_X8_44_0, zf_X8_47_0, zf_X8_50_0, zf_X8_234_0, zf_X8_53_0, zf_X8_56_0, zf_X8_59_0, zf_X8_62_0, zf_X8_66_0, zf_X8_69_0, zf_X8_72_0, zf_X8_75_0, zf_X8_244_0, zkc_X8_240, zkc_X8_253, zkl_X8_92, zkl_X8_262, zkl_X8_257, za_M_1, za_M_2, za_M_3, za_M_4, za_M_5, za_M_6, za_M_7, za_M_8, za_M_9, za_M_10, za_M_11, za_M_12, za_M_13, za_M_14, za_M_15, za_M_16, za_M_17, za_M_18, za_M_19, za_M_20, za_M_21, za_M_22, dX8_write_0, dX8_write_1, dX8_write_2, dX8_write_5, dX8_write_8, dX8_write_9, dX8_write_12, dX8_write_15, dX8_write_17, dX8_write_18, dX8_write_19, dX8_write_22, dX8_write_23, dX8_write_24, dX8_write_27, dX8_write_28, dX8_write_29, dX8_write_32, dX8_write_33, dX8_write_34, dX8_write_37, dX8_write_38, dX8_write_39, dX8_write_41, dX8_write_43, dX8_write_44, dX8_write_47, dX8_write_48, dX8_write_49, dX8_write_52, dX8_write_53, dX8_write_54, dX8_write_56, dX8_write_57, dX8_write_58, dX8_write_59, dX8_write_61, dX8_write_64, dX8_write_67, dX8_write_70, dX8_write_73, dX8_write_74, dX8_write_77, dX8_write_78, dX8_write_79, cr_X8_write_134, cr_X8_write_147, cr_X8_write_150, cr_X8_write_160, cr_X8_write_192, cr_X8_write_250, wr_X8_isKing, wr_X8_isSheet, wr_X8_meets, wr_X8_leftNow, wr_X8_actOf, wr_X8_keep]
        rw [show s.toNatClampNeg = r from ecn, b3, n_le (by omega) (by omega), nI_1]
        refine ⟨hin, fun q => absurd q (by omega), fun _ => ⟨wSh T r (tsh T r) (fun p => if p < i then nI (tA T (cn a) (tL T) p) else tit T r p), cn a, tL T, i, ea, rfl, rfl, ha2, by omega, hM', fun S2 p2 => ⟨wSh T r (tsh T r) (fun p => if p < i then nI (tA T (cn a) (tL T) p) else tit T r p), r, i, e, rfl, hr, by omega, p2.1, ?_, ?_⟩⟩⟩
        · dsimp only [wSh, tsh]; rw [va_up_self]; exact ht
        · have nx := m_put (v := nI (tA T (cn a) (tL T) i)) (m := i) p2.1 hr (by dsimp only [wSh, tsh]; rw [va_up_self]; show i < (tsh T r).2.2; omega) (by dsimp only [wSh, tsh]; rw [va_up_self]; exact ht)
          rw [show ∀ x, ab_narrow x (nI (tA (wSh T r (tsh T r) (fun p => if p < i then nI (tA T (cn a) (tL T) p) else tit T r p)) (cn a) (tL T) i)) = nI (tA T (cn a) (tL T) i) from fun x => na_A _ _ _ _ _]
          refine ih (i + 1) _ (by omega) ?_
          have e1 : wSh (wSh T r (tsh T r) (fun p => if p < i then nI (tA T (cn a) (tL T) p) else tit T r p)) r (tsh (wSh T r (tsh T r) (fun p => if p < i then nI (tA T (cn a) (tL T) p) else tit T r p)) r) (va_up (tit (wSh T r (tsh T r) (fun p => if p < i then nI (tA T (cn a) (tL T) p) else tit T r p)) r) i (nI (tA T (cn a) (tL T) i))) = wSh T r (tsh T r) (fun p => if p < i + 1 then nI (tA T (cn a) (tL T) p) else tit T r p) := by
            rw [wSh_2]
            congr 1
            · dsimp only [wSh, tsh]; rw [va_up_self]
            · funext p
              rw [show tit (wSh T r (tsh T r) (fun p => if p < i then nI (tA T (cn a) (tL T) p) else tit T r p)) r = (fun p => if p < i then nI (tA T (cn a) (tL T) p) else tit T r p) from va_up_self _ _ _]
              by_cases ep : p = i
              · subst ep; rw [va_up_self, if_pos (by omega)]
              · rw [va_up_ne _ _ ep]
                by_cases hl : p < i
                · rw [if_pos hl, if_pos (by omega)]
                · rw [if_neg hl, if_neg (by omega)]
          rw [e1] at nx
          exact nx
    refine hK (z_in [41]) 60 _ _ _ _ _ (Nat.zero_le _) ?_
    simp (config := { maxSteps := 10000000 }) only [z40, z20, z10, z01, zm0, z0m, ze_s, ze_ok, zt_s, zt_t, zt_f, zl_I, zl_J, zl_R, zl_N, zl_C, zl_K, zl_M, zl_ar0, zl_ar1, zl_ar2, zl_ar3, zl_as0, zl_as1, zl_as2, zl_al, zl_gf, zl_gr, zl_pf, zl_iv, zl_ivn, zlk_n, zlk_c, ztb_n, ztb_c, zin_n, zin_1, zin_c, Int.reduceLT, decide_true, decide_false, Bool.true_and, Bool.and_true, List.length_cons, List.length_nil, Int.reduceSub, Int.reduceEq, Int.natCast_zero, zk_s, z_in_n, z_in_c, z_gt_0, z_gt_s, zst_0, zst_1, zst_s, zsl_0, zsl_1, zsl_s, zc_n, zc_i, zc_l, zc_r, zc_u, zca_n, zca_i, zca_l, zca_r, zca_u, zrt_i, zrt_z, zrt_o, z_cal_0, z_cal_s, true_and, and_true, List.nil_append, List.cons_append, Option.toList_some, Option.toList_none, Nat.reduceAdd, Nat.reduceBEq, Nat.reduceLT, Nat.reduceLeDiff, Nat.reduceSub, Int.reduceAdd, Int.reduceLE, Int.reduceToNat, Int.cast_ofNat_Int, Bool.or_true, Bool.true_or, Bool.or_false, Bool.false_or, Nat.le_refl, Nat.zero_le, or_true, true_or, or_false, false_or, not_true_eq_false, not_false_eq_true, not_false_iff, false_implies, true_implies, eq_self, zo_iconst, zo_bipush, zo_sipush, zo_lconst, zo_ldc, zo_ldc_w, zo_ldc2_w, zo_iload_n, zo_iload, zo_lload_n, zo_lload, zo_aload_n, zo_aload, zo_istore_n, zo_istore, zo_lstore_n, zo_lstore, zo_astore_n, zo_astore, zo_iinc, zo_iadd, zo_isub, zo_imul, zo_iand, zo_ior, zo_ixor, zo_ishl, zo_ishr, zo_iushr, zo_idiv, zo_irem, zo_ladd, zo_lsub, zo_lmul, zo_ldiv, zo_lrem, zo_lcmp, zo_i2l, zo_i2b, zo_i2s, zo_dup, zo_dup2, zo_aconst_null, zo_if_icmp, zo_ifCond, zo_goto, zo_ifnull, zo_ifnonnull, zo_iaload, zo_baload, zo_laload, zo_aaload, zo_iastore, zo_bastore, zo_lastore, zo_arraylength, zo_getfield, zo_putfield, zo_tableswitch, zo_lookupswitch, zo_ireturn, zo_lreturn, zo_areturn, zo_return, zo_invokestatic, zo_invokevirtual, zo_new, zo_invokespecial, zo_newarray, zo_anewarray, zo_aastore, zy_0_1, zy_0_2, zy_0_3, zy_1_1, zy_1_2, zy_2_1, zy_2_2, zy_2_3, zy_3_0, zy_4_3, zy_5_1, zy_5_2, zy_6_5, zy_6_6, zy_6_7, zy_6_8, zy_6_9, zy_6_10, zy_7_2, zy_7_6, zy_7_9, zy_7_10, zy_7_11, zy_7_12, zy_7_14, zy_7_21, zy_7_30, zq_iconst, zq_bipush, zq_sipush, zq_lconst0, zq_lconst1, zq_ldc, zq_ldc_w, zq_ldc2_w, zq_iload0, zq_iload1, zq_iload2, zq_iload3, zq_iload, zq_lload0, zq_lload1, zq_lload2, zq_lload3, zq_lload, zq_aload0, zq_aload1, zq_aload2, zq_aload3, zq_aload, zq_istore0, zq_istore1, zq_istore2, zq_istore3, zq_istore, zq_lstore0, zq_lstore1, zq_lstore2, zq_lstore3, zq_lstore, zq_astore0, zq_astore0N, zq_astore1, zq_astore1N, zq_astore2, zq_astore2N, zq_astore3, zq_astore3N, zq_astore, zq_astoreN, zq_iinc, zq_iadd, zq_isub, zq_imul, zq_iand, zq_ior, zq_ixor, zq_ishl, zq_ishr, zq_iushr, zq_idiv, zq_irem, zq_ladd, zq_lsub, zq_lmul, zq_ldiv, zq_lrem, zq_lcmp, zq_i2l, zq_i2b, zq_i2s, zq_dup_i, zq_dup_r, zq_dup2, zq_null, zq_icmp_eq, zq_if_eq, zq_icmp_ne, zq_if_ne, zq_icmp_lt, zq_if_lt, zq_icmp_ge, zq_if_ge, zq_icmp_gt, zq_if_gt, zq_icmp_le, zq_if_le, zq_goto, zq_ifnull_r, zq_ifnull_n, zq_ifnonnull_r, zq_ifnonnull_n, zq_iaload, zq_baload, zq_laload, zq_aaload, zq_iastore, zq_bastore, zq_lastore, zq_alen, zq_getf, zq_put, zq_tsw, zq_lsw, zq_ireturn, zq_lreturn, zq_areturn, zq_areturnN, zq_return, zq_invokestatic, zq_invokevirtual, zq_new, zq_invokespecial, zq_newarray, zq_anewarray, zq_aastore, zi_m1, zi_0, zi_1, zi_2, zi_3, zi_4, zi_5, zi_6, zi_8, zi_16, zb_m10, zb_m4, zb_m3, zb_m2, zb_6, zb_7, zb_8, zb_9, zb_10, zb_16, zb_20, zb_23, zb_30, zb_32, zb_35, zb_46, zb_48, zb_56, zb_57, zb_59, zb_63, zb_70, zb_98, zb_99, zb_100, zb_111, zb_112, zs_192, zs_255, zs_256, zs_511, zs_512, zs_12345, zf_X8_7_0, zf_X8_13_0, zf_X8_112_0, zf_X8_16_0, zf_X8_19_0, zf_X8_22_0, zf_X8_115_0, zf_X8_25_0, zf_X8_28_0, zf_X8_78_0, zf_X8_82_0, zf_X8_85_0, zf_X8_144_0, zf_X8_31_0, zf_X8_137_0, zf_X8_34_0, zf_X8_38_0, zf_X8_41_0, zf_X8_44_0, zf_X8_47_0, zf_X8_50_0, zf_X8_234_0, zf_X8_53_0, zf_X8_56_0, zf_X8_59_0, zf_X8_62_0, zf_X8_66_0, zf_X8_69_0, zf_X8_72_0, zf_X8_75_0, zf_X8_244_0, zkc_X8_240, zkc_X8_253, zkl_X8_92, zkl_X8_262, zkl_X8_257, za_M_1, za_M_2, za_M_3, za_M_4, za_M_5, za_M_6, za_M_7, za_M_8, za_M_9, za_M_10, za_M_11, za_M_12, za_M_13, za_M_14, za_M_15, za_M_16, za_M_17, za_M_18, za_M_19, za_M_20, za_M_21, za_M_22, dX8_write_0, dX8_write_1, dX8_write_2, dX8_write_5, dX8_write_8, dX8_write_9, dX8_write_12, dX8_write_15, dX8_write_17, dX8_write_18, dX8_write_19, dX8_write_22, dX8_write_23, dX8_write_24, dX8_write_27, dX8_write_28, dX8_write_29, dX8_write_32, dX8_write_33, dX8_write_34, dX8_write_37, dX8_write_38, dX8_write_39, dX8_write_41, dX8_write_43, dX8_write_44, dX8_write_47, dX8_write_48, dX8_write_49, dX8_write_52, dX8_write_53, dX8_write_54, dX8_write_56, dX8_write_57, dX8_write_58, dX8_write_59, dX8_write_61, dX8_write_64, dX8_write_67, dX8_write_70, dX8_write_73, dX8_write_74, dX8_write_77, dX8_write_78, dX8_write_79, cr_X8_write_134, cr_X8_write_147, cr_X8_write_150, cr_X8_write_160, cr_X8_write_192, cr_X8_write_250, wr_X8_isKing, wr_X8_isSheet, wr_X8_meets, wr_X8_leftNow, wr_X8_actOf, wr_X8_keep]
    refine ⟨T, hM, fun S1 p1 f1 => ⟨fun c => ⟨fun d => ?_, fun d => bad (fun q => d q.2) S1 p1.1⟩, fun c => bad (fun q => c q.1) S1 p1.1⟩⟩
    obtain ⟨es, hs⟩ := i_inI d (by omega)
    have hin : vp_in s 4 := by rw [es]; exact n_in (by omega) (by omega)
    refine ⟨hin, fun l => ?_, fun l => ⟨T, p1.1, fun S2 p2 f2 => ?_⟩⟩
    · have hl := (MR_lost p1.1 hs).mp l
      have g1 : q_write T a s = q_fnd 1 := by unfold q_write; rw [if_pos ⟨c, d⟩, if_neg (by rw [hl]; decide)]
      have g2 : u_write T a s = wFd T 1 := by unfold u_write; rw [if_pos ⟨c, d⟩, if_neg (by rw [hl]; decide)]
      rw [g1, g2] at hk
      exact ⟨T, 1, p1.1, rfl, by omega, hk⟩
    · have ht := MR_there p1.1 hs l
      exact key (cn s) hs es c ht _ 0 S2 (Nat.zero_add _) (m_row0 (f := fun p => if p < 0 then nI (tA T (cn a) (tL T) p) else tit T (cn s) p) p2.1 hs (fun i hi => if_neg (Nat.not_lt_zero _)))
  · exact h.elim
theorem ok_X8_write : z_Ok z_shM yX8_write cX8_write 5 (some .int) ({ frames := 9, cells := 0, slots := 0, locals := 218 } : Room) 0 wp_X8_write := z_Ok_of pu_X8_write z_fX8_ok z_kX8_ok co_X8_write ⟨by decide, by decide⟩ (by decide +kernel)
theorem rec_X8_write : z_rec z_shM wp_X8_write 7 := by
  intro as S post h
  unfold wp_X8_write at h
  split at h
  · exact ⟨_, _, _, rfl, rfl⟩
  · exact h.elim

