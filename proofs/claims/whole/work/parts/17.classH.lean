/-! the class's own: pages, the fourth -/
theorem CR_findT {T : ZT} {f : Nat} (h : tI T) (hf : f ≤ 5) : tI (wFd T f) := ⟨h.1, h.2.1, h.2.2.1, h.2.2.2.1, h.2.2.2.2.1, h.2.2.2.2.2.1, h.2.2.2.2.2.2.1, hf⟩
theorem CR_find {T : ZT} {S : ZS} {f : Nat} (h : CR T S) (hf : f ≤ 5) : CR (wFd T f) (z_u S.1 0 10 (nI f), S.2) := by
  obtain ⟨f5, f6, f7, f8, f9, f10⟩ := CR_nums h
  refine CR_num h (CR_findT h.1 hf) rfl rfl rfl rfl ?_ (fun x hx => by dsimp only; rw [z_u_o hx])
  refine ⟨?_, ?_, ?_, ?_, ?_, ?_⟩ <;> simp only [z_rd, true_and, if_true, Nat.reduceEqDiff, if_false] <;> assumption
def wp_X7_found (T : ZT) : ZW := fun as S k => match as with
  | [.ref 0, .int v] => ∃ f : Nat, CR T S ∧ v = nI f ∧ f ≤ 5 ∧ ∀ S', CR (wFd T f) S' → k (some (.int (q_fnd f))) S'
  | _ => False
theorem wr_X7_found {T : ZT} {v : Int32} {S : ZS} {k : Option Value → ZS → Prop} : (wp_X7_found T) [.ref 0, .int v] S k = (∃ f : Nat, CR T S ∧ v = nI f ∧ f ≤ 5 ∧ ∀ S', CR (wFd T f) S' → k (some (.int (q_fnd f))) S') := rfl
def cs_X7_found : List (Nat × ZC) := []
set_option maxRecDepth 20000 in
theorem co_X7_found {tl : List ZE} : z_csok RX7 ({ frames := 0, cells := 0, slots := 0, locals := 0 } : Room) (z_shC tl) cs_X7_found := z_cs0
set_option maxHeartbeats 4000000 in
set_option maxRecDepth 20000 in
theorem pu_X7_found (T : ZT) {tl : List ZE} : z_Pure cX7_found 2 (z_shC tl) z_fX7 cs_X7_found z_kcX7 z_klX7 (some .int) 0 (wp_X7_found T) := by
  intro as S post h
  unfold wp_X7_found at h
  split at h
  · rename_i v
    refine ⟨Nat.le_of_ble_eq_true rfl, fun K hK => ?_⟩
    change K 0 0 [some (.ref 0), some (.int v)] [] S
    obtain ⟨f, hC, rfl, hf, hk⟩ := h
    refine hK (z_in []) 60 _ _ _ _ _ (Nat.zero_le _) ?_
    simp (config := { maxSteps := 10000000 }) only [z40, z20, z10, z01, zm0, z0m, ze_s, ze_ok, zt_s, zt_t, zt_f, zl_I, zl_J, zl_R, zl_N, zl_C, zl_K, zl_M, zl_ar0, zl_ar1, zl_ar2, zl_ar3, zl_as0, zl_as1, zl_as2, zl_al, zl_gf, zl_gr, zl_pf, zl_iv, zl_ivn, zlk_n, zlk_c, ztb_n, ztb_c, zin_n, zin_1, zin_c, Int.reduceLT, decide_true, decide_false, Bool.true_and, Bool.and_true, List.length_cons, List.length_nil, Int.reduceSub, Int.reduceEq, Int.natCast_zero, zk_s, z_in_n, z_in_c, z_gt_0, z_gt_s, zst_0, zst_1, zst_s, zsl_0, zsl_1, zsl_s, zc_n, zc_i, zc_l, zc_r, zc_u, zca_n, zca_i, zca_l, zca_r, zca_u, zrt_i, zrt_z, zrt_o, z_cal_0, z_cal_s, true_and, and_true, List.nil_append, List.cons_append, Option.toList_some, Option.toList_none, Nat.reduceAdd, Nat.reduceBEq, Nat.reduceLT, Nat.reduceLeDiff, Nat.reduceSub, Int.reduceAdd, Int.reduceLE, Int.reduceToNat, Int.cast_ofNat_Int, Bool.or_true, Bool.true_or, Bool.or_false, Bool.false_or, Nat.le_refl, Nat.zero_le, or_true, true_or, or_false, false_or, not_true_eq_false, not_false_eq_true, not_false_iff, false_implies, true_implies, eq_self, zo_iconst, zo_bipush, zo_sipush, zo_lconst, zo_ldc, zo_ldc_w, zo_ldc2_w, zo_iload_n, zo_iload, zo_lload_n, zo_lload, zo_aload_n, zo_aload, zo_istore_n, zo_istore, zo_lstore_n, zo_lstore, zo_astore_n, zo_astore, zo_iinc, zo_iadd, zo_isub, zo_imul, zo_iand, zo_ior, zo_ixor, zo_ishl, zo_ishr, zo_iushr, zo_idiv, zo_irem, zo_ladd, zo_lsub, zo_lmul, zo_ldiv, zo_lrem, zo_lcmp, zo_i2l, zo_i2b, zo_i2s, zo_dup, zo_dup2, zo_aconst_null, zo_if_icmp, zo_ifCond, zo_goto, zo_ifnull, zo_ifnonnull, zo_iaload, zo_baload, zo_laload, zo_aaload, zo_iastore, zo_bastore, zo_lastore, zo_arraylength, zo_getfield, zo_putfield, zo_tableswitch, zo_lookupswitch, zo_ireturn, zo_lreturn, zo_areturn, zo_return, zo_invokestatic, zo_invokevirtual, zo_new, zo_invokespecial, zo_newarray, zo_anewarray, zo_aastore, zy_0_1, zy_0_2, zy_0_3, zy_1_1, zy_1_2, zy_2_1, zy_2_2, zy_2_3, zy_3_0, zy_4_3, zy_5_1, zy_5_2, zy_6_5, zy_6_6, zy_6_7, zy_6_8, zy_6_9, zy_6_10, zy_7_2, zy_7_6, zy_7_9, zy_7_10, zy_7_11, zy_7_12, zy_7_14, zy_7_21, zy_7_30, zq_iconst, zq_bipush, zq_sipush, zq_lconst0, zq_lconst1, zq_ldc, zq_ldc_w, zq_ldc2_w, zq_iload0, zq_iload1, zq_iload2, zq_iload3, zq_iload, zq_lload0, zq_lload1, zq_lload2, zq_lload3, zq_lload, zq_aload0, zq_aload1, zq_aload2, zq_aload3, zq_aload, zq_istore0, zq_istore1, zq_istore2, zq_istore3, zq_istore, zq_lstore0, zq_lstore1, zq_lstore2, zq_lstore3, zq_lstore, zq_astore0, zq_astore0N, zq_astore1, zq_astore1N, zq_astore2, zq_astore2N, zq_astore3, zq_astore3N, zq_astore, zq_astoreN, zq_iinc, zq_iadd, zq_isub, zq_imul, zq_iand, zq_ior, zq_ixor, zq_ishl, zq_ishr, zq_iushr, zq_idiv, zq_irem, zq_ladd, zq_lsub, zq_lmul, zq_ldiv, zq_lrem, zq_lcmp, zq_i2l, zq_i2b, zq_i2s, zq_dup_i, zq_dup_r, zq_dup2, zq_null, zq_icmp_eq, zq_if_eq, zq_icmp_ne, zq_if_ne, zq_icmp_lt, zq_if_lt, zq_icmp_ge, zq_if_ge, zq_icmp_gt, zq_if_gt, zq_icmp_le, zq_if_le, zq_goto, zq_ifnull_r, zq_ifnull_n, zq_ifnonnull_r, zq_ifnonnull_n, zq_iaload, zq_baload, zq_laload, zq_aaload, zq_iastore, zq_bastore, zq_lastore, zq_alen, zq_getf, zq_put, zq_tsw, zq_lsw, zq_ireturn, zq_lreturn, zq_areturn, zq_areturnN, zq_return, zq_invokestatic, zq_invokevirtual, zq_new, zq_invokespecial, zq_newarray, zq_anewarray, zq_aastore, zi_m1, zi_0, zi_1, zi_2, zi_3, zi_4, zi_5, zi_6, zi_8, zi_16, zb_m10, zb_m4, zb_m3, zb_m2, zb_6, zb_7, zb_8, zb_9, zb_10, zb_16, zb_20, zb_23, zb_30, zb_32, zb_35, zb_46, zb_48, zb_56, zb_57, zb_59, zb_63, zb_70, zb_98, zb_99, zb_100, zb_111, zb_112, zs_192, zs_255, zs_256, zs_511, zs_512, zs_12345, zf_X7_10_0, zf_X7_19_0, zf_X7_26_0, zf_X7_33_0, zf_X7_39_0, zf_X7_43_0, zf_X7_47_0, zf_X7_50_0, zf_X7_53_0, zf_X7_56_0, zf_X7_59_0, zkc_X7_223, zkl_X7_313, zkl_X7_240, zkl_X7_305, za_C_2, za_C_3, za_C_4, za_C_5, za_C_6, za_C_8, za_C_9, za_C_10, za_C_12, za_C_14, za_C_15, za_C_16, za_C_17, za_C_22, za_C_23, za_C_24, za_C_25, dX7_found_0, dX7_found_1, dX7_found_2, dX7_found_5, dX7_found_7, dX7_found_8, dX7_found_9]
    exact hk _ (CR_find hC hf)
  · exact h.elim
theorem ok_X7_found (T : ZT) {tl : List ZE} : z_Ok (z_shC tl) yX7_found cX7_found 2 (some .int) ({ frames := 0, cells := 0, slots := 0, locals := 0 } : Room) 0 (wp_X7_found T) := z_Ok_of (pu_X7_found T) z_fX7_ok z_kX7_ok co_X7_found ⟨by decide, by decide⟩ (by decide +kernel)
theorem rec_X7_found (T : ZT) {tl : List ZE} : z_rec (z_shC tl) (wp_X7_found T) 6 := by
  intro as S post h
  unfold wp_X7_found at h
  split at h
  · exact ⟨_, _, _, rfl, rfl⟩
  · exact h.elim
def wp_X7_page (T : ZT) : ZW := fun as S k => match as with
  | [.ref 0, .int b] => CR T S ∧ ∀ S', CR (u_page T b) S' → k (some (.int (q_page T b))) S'
  | _ => False
theorem wr_X7_page {T : ZT} {b : Int32} {S : ZS} {k : Option Value → ZS → Prop} : (wp_X7_page T) [.ref 0, .int b] S k = (CR T S ∧ ∀ S', CR (u_page T b) S' → k (some (.int (q_page T b))) S') := rfl
def cs_X7_page : List (Nat × ZC) := [(67, (3, 0, true, wp_X7_within))]
theorem cr_X7_page_67 : cs_X7_page.lookup 67 = some (3, 0, true, wp_X7_within) := rfl
set_option maxRecDepth 20000 in
theorem co_X7_page {tl : List ZE} : z_csok RX7 ({ frames := 1, cells := 0, slots := 0, locals := 22 } : Room) (z_shC tl) cs_X7_page := z_cs2 (z_csS ok_X7_within (z_g 210 (by decide +kernel) rfl) (z_g 211 (by decide +kernel) rfl) (z_g 44 (by decide +kernel) rfl) (z_g 212 (by decide +kernel) rfl) rfl rfl (by decide +kernel) ⟨by decide, by decide⟩)
  (z_cs0)
set_option maxHeartbeats 4000000 in
set_option maxRecDepth 20000 in
theorem pu_X7_page (T : ZT) {tl : List ZE} : z_Pure cX7_page 2 (z_shC tl) z_fX7 cs_X7_page z_kcX7 z_klX7 (some .int) 0 (wp_X7_page T) := by
  intro as S post h
  unfold wp_X7_page at h
  split at h
  · rename_i b
    refine ⟨Nat.le_of_ble_eq_true rfl, fun K hK => ?_⟩
    change K 0 0 [some (.ref 0), some (.int b)] [] S
    obtain ⟨hC, hk⟩ := h
    obtain ⟨f5, f6, f7, f8, f9, f10⟩ := CR_nums hC
    have hp := hC.1.2.2.2.2.1
    refine hK (z_in []) 100 _ _ _ _ _ (Nat.zero_le _) ?_
    simp (config := { maxSteps := 10000000 }) only [z40, z20, z10, z01, zm0, z0m, ze_s, ze_ok, zt_s, zt_t, zt_f, zl_I, zl_J, zl_R, zl_N, zl_C, zl_K, zl_M, zl_ar0, zl_ar1, zl_ar2, zl_ar3, zl_as0, zl_as1, zl_as2, zl_al, zl_gf, zl_gr, zl_pf, zl_iv, zl_ivn, zlk_n, zlk_c, ztb_n, ztb_c, zin_n, zin_1, zin_c, Int.reduceLT, decide_true, decide_false, Bool.true_and, Bool.and_true, List.length_cons, List.length_nil, Int.reduceSub, Int.reduceEq, Int.natCast_zero, zk_s, z_in_n, z_in_c, z_gt_0, z_gt_s, zst_0, zst_1, zst_s, zsl_0, zsl_1, zsl_s, zc_n, zc_i, zc_l, zc_r, zc_u, zca_n, zca_i, zca_l, zca_r, zca_u, zrt_i, zrt_z, zrt_o, z_cal_0, z_cal_s, true_and, and_true, List.nil_append, List.cons_append, Option.toList_some, Option.toList_none, Nat.reduceAdd, Nat.reduceBEq, Nat.reduceLT, Nat.reduceLeDiff, Nat.reduceSub, Int.reduceAdd, Int.reduceLE, Int.reduceToNat, Int.cast_ofNat_Int, Bool.or_true, Bool.true_or, Bool.or_false, Bool.false_or, Nat.le_refl, Nat.zero_le, or_true, true_or, or_false, false_or, not_true_eq_false, not_false_eq_true, not_false_iff, false_implies, true_implies, eq_self, zo_iconst, zo_bipush, zo_sipush, zo_lconst, zo_ldc, zo_ldc_w, zo_ldc2_w, zo_iload_n, zo_iload, zo_lload_n, zo_lload, zo_aload_n, zo_aload, zo_istore_n, zo_istore, zo_lstore_n, zo_lstore, zo_astore_n, zo_astore, zo_iinc, zo_iadd, zo_isub, zo_imul, zo_iand, zo_ior, zo_ixor, zo_ishl, zo_ishr, zo_iushr, zo_idiv, zo_irem, zo_ladd, zo_lsub, zo_lmul, zo_ldiv, zo_lrem, zo_lcmp, zo_i2l, zo_i2b, zo_i2s, zo_dup, zo_dup2, zo_aconst_null, zo_if_icmp, zo_ifCond, zo_goto, zo_ifnull, zo_ifnonnull, zo_iaload, zo_baload, zo_laload, zo_aaload, zo_iastore, zo_bastore, zo_lastore, zo_arraylength, zo_getfield, zo_putfield, zo_tableswitch, zo_lookupswitch, zo_ireturn, zo_lreturn, zo_areturn, zo_return, zo_invokestatic, zo_invokevirtual, zo_new, zo_invokespecial, zo_newarray, zo_anewarray, zo_aastore, zy_0_1, zy_0_2, zy_0_3, zy_1_1, zy_1_2, zy_2_1, zy_2_2, zy_2_3, zy_3_0, zy_4_3, zy_5_1, zy_5_2, zy_6_5, zy_6_6, zy_6_7, zy_6_8, zy_6_9, zy_6_10, zy_7_2, zy_7_6, zy_7_9, zy_7_10, zy_7_11, zy_7_12, zy_7_14, zy_7_21, zy_7_30, zq_iconst, zq_bipush, zq_sipush, zq_lconst0, zq_lconst1, zq_ldc, zq_ldc_w, zq_ldc2_w, zq_iload0, zq_iload1, zq_iload2, zq_iload3, zq_iload, zq_lload0, zq_lload1, zq_lload2, zq_lload3, zq_lload, zq_aload0, zq_aload1, zq_aload2, zq_aload3, zq_aload, zq_istore0, zq_istore1, zq_istore2, zq_istore3, zq_istore, zq_lstore0, zq_lstore1, zq_lstore2, zq_lstore3, zq_lstore, zq_astore0, zq_astore0N, zq_astore1, zq_astore1N, zq_astore2, zq_astore2N, zq_astore3, zq_astore3N, zq_astore, zq_astoreN, zq_iinc, zq_iadd, zq_isub, zq_imul, zq_iand, zq_ior, zq_ixor, zq_ishl, zq_ishr, zq_iushr, zq_idiv, zq_irem, zq_ladd, zq_lsub, zq_lmul, zq_ldiv, zq_lrem, zq_lcmp, zq_i2l, zq_i2b, zq_i2s, zq_dup_i, zq_dup_r, zq_dup2, zq_null, zq_icmp_eq, zq_if_eq, zq_icmp_ne, zq_if_ne, zq_icmp_lt, zq_if_lt, zq_icmp_ge, zq_if_ge, zq_icmp_gt, zq_if_gt, zq_icmp_le, zq_if_le, zq_goto, zq_ifnull_r, zq_ifnull_n, zq_ifnonnull_r, zq_ifnonnull_n, zq_iaload, zq_baload, zq_laload, zq_aaload, zq_iastore, zq_bastore, zq_lastore, zq_alen, zq_getf, zq_put, zq_tsw, zq_lsw, zq_ireturn, zq_lreturn, zq_areturn, zq_areturnN, zq_return, zq_invokestatic, zq_invokevirtual, zq_new, zq_invokespecial, zq_newarray, zq_anewarray, zq_aastore, zi_m1, zi_0, zi_1, zi_2, zi_3, zi_4, zi_5, zi_6, zi_8, zi_16, zb_m10, zb_m4, zb_m3, zb_m2, zb_6, zb_7, zb_8, zb_9, zb_10, zb_16, zb_20, zb_23, zb_30, zb_32, zb_35, zb_46, zb_48, zb_56, zb_57, zb_59, zb_63, zb_70, zb_98, zb_99, zb_100, zb_111, zb_112, zs_192, zs_255, zs_256, zs_511, zs_512, zs_12345, zf_X7_10_0, zf_X7_19_0, zf_X7_26_0, zf_X7_33_0, zf_X7_39_0, zf_X7_43_0, zf_X7_47_0, zf_X7_50_0, zf_X7_53_0, zf_X7_56_0, zf_X7_59_0, zkc_X7_223, zkl_X7_313, zkl_X7_240, zkl_X7_305, za_C_2, za_C_3, za_C_4, za_C_5, za_C_6, za_C_8, za_C_9, za_C_10, za_C_12, za_C_14, za_C_15, za_C_16, za_C_17, za_C_22, za_C_23, za_C_24, za_C_25, dX7_page_0, dX7_page_1, dX7_page_2, dX7_page_3, dX7_page_6, dX7_page_9, dX7_page_11, dX7_page_12, dX7_page_13, dX7_page_16, dX7_page_17, dX7_page_20, dX7_page_21, dX7_page_23, dX7_page_26, dX7_page_28, dX7_page_29, dX7_page_30, dX7_page_31, dX7_page_34, dX7_page_35, dX7_page_36, dX7_page_39, dX7_page_40, dX7_page_41, dX7_page_44, dX7_page_47, dX7_page_48, dX7_page_49, dX7_page_52, dX7_page_53, dX7_page_54, dX7_page_57, dX7_page_58, dX7_page_61, dX7_page_62, dX7_page_65, dX7_page_66, cr_X7_page_67, wr_X7_within]
    have e1 : (0 ≤ b ∧ b ≤ 1) ↔ i_in b 2 := w_in (m := 1) (by decide)
    rw [e1]
    simp only [z_rd, true_and, and_self, if_true, Nat.reduceEqDiff, false_and, and_false, if_false, f8, f9, nI_add, nI_1, n_geL (n := tpb T + tpo T) (M := 9) 9 rfl (by omega) (by omega), n_leL (n := tpb T + tpo T) (M := 9) 9 rfl (by omega) (by omega), n_ltL (n := tpb T + tpo T) (M := 9) 9 rfl (by omega) (by omega), n_gtL (n := tpb T + tpo T) (M := 9) 9 rfl (by omega) (by omega), n_eqL (n := tpb T + tpo T) (M := 9) 9 rfl (by omega) (by omega)]
    obtain ⟨a1, a2, a3, a4, a5, a6⟩ := hC.1
    have oN : ¬ (i_in b 2 ∧ ¬ tpb T + tpo T = 9) → CR (u_page T b) S := by
      intro q
      have g : u_page T b = T := by unfold u_page; rw [if_neg q]
      rw [g]; exact hC
    refine ⟨fun c => ⟨fun d => ⟨fun e => ?_, fun e => ?_⟩, fun d => ?_⟩, fun c => ?_⟩
    · have g1 : q_page T b = nI (tpb T + tpo T + 1) := by unfold q_page; rw [if_pos c, if_neg (by omega)]
      have g2 : u_page T b = wPg T (tpb T + 1, tpo T) := by unfold u_page; rw [if_pos ⟨c, by omega⟩, if_pos e]
      rw [g1, g2] at hk
      rw [show tpb T + 1 + tpo T = tpb T + tpo T + 1 by omega]
      refine hk _ (CR_num hC ⟨a1, a2, a3, a4, by dsimp only [tpb, tpo] at *; omega, a6⟩ rfl rfl rfl rfl ?_ (fun x hx => by dsimp only; rw [z_u_o hx]))
      refine ⟨?_, ?_, ?_, ?_, ?_, ?_⟩ <;> simp only [z_rd, true_and, if_true, Nat.reduceEqDiff, if_false] <;> assumption
    · have g1 : q_page T b = nI (tpb T + tpo T + 1) := by unfold q_page; rw [if_pos c, if_neg (by omega)]
      have g2 : u_page T b = wPg T (tpb T, tpo T + 1) := by unfold u_page; rw [if_pos ⟨c, by omega⟩, if_neg e]
      rw [g1, g2] at hk
      rw [show tpb T + (tpo T + 1) = tpb T + tpo T + 1 by omega]
      refine hk _ (CR_num hC ⟨a1, a2, a3, a4, by dsimp only [tpb, tpo] at *; omega, a6⟩ rfl rfl rfl rfl ?_ (fun x hx => by dsimp only; rw [z_u_o hx]))
      refine ⟨?_, ?_, ?_, ?_, ?_, ?_⟩ <;> simp only [z_rd, true_and, if_true, Nat.reduceEqDiff, if_false] <;> assumption
    · have g1 : q_page T b = -4 := by unfold q_page; rw [if_pos c, if_pos (by omega)]
      rw [g1] at hk
      exact hk S (oN (fun q => q.2 (by omega)))
    · have g1 : q_page T b = -2 := by unfold q_page; rw [if_neg c]
      rw [g1] at hk
      exact hk S (oN (fun q => c q.1))
  · exact h.elim
theorem ok_X7_page (T : ZT) {tl : List ZE} : z_Ok (z_shC tl) yX7_page cX7_page 2 (some .int) ({ frames := 1, cells := 0, slots := 0, locals := 22 } : Room) 0 (wp_X7_page T) := z_Ok_of (pu_X7_page T) z_fX7_ok z_kX7_ok co_X7_page ⟨by decide, by decide⟩ (by decide +kernel)
theorem rec_X7_page (T : ZT) {tl : List ZE} : z_rec (z_shC tl) (wp_X7_page T) 6 := by
  intro as S post h
  unfold wp_X7_page at h
  split at h
  · exact ⟨_, _, _, rfl, rfl⟩
  · exact h.elim
def wp_X7_power : ZW := fun as S k => match as with
  | [.int b, .int e] => ∃ x n : Nat, b = nI x ∧ e = nI n ∧ x < 2147483648 ∧ n < 2147483648 ∧ k (some (.long (lN (x ^ n)))) S
  | _ => False
theorem wr_X7_power {b : Int32} {e : Int32} {S : ZS} {k : Option Value → ZS → Prop} : wp_X7_power [.int b, .int e] S k = (∃ x n : Nat, b = nI x ∧ e = nI n ∧ x < 2147483648 ∧ n < 2147483648 ∧ k (some (.long (lN (x ^ n)))) S) := rfl
def cs_X7_power : List (Nat × ZC) := []
set_option maxRecDepth 20000 in
theorem co_X7_power {tl : List ZE} : z_csok RX7 ({ frames := 0, cells := 0, slots := 0, locals := 0 } : Room) (z_shC tl) cs_X7_power := z_cs0
set_option maxHeartbeats 4000000 in
set_option maxRecDepth 20000 in
theorem pu_X7_power {tl : List ZE} : z_Pure cX7_power 5 (z_shC tl) z_fX7 cs_X7_power z_kcX7 z_klX7 (some .long) 0 wp_X7_power := by
  intro as S post h
  unfold wp_X7_power at h
  split at h
  · rename_i b e
    refine ⟨Nat.le_of_ble_eq_true rfl, fun K hK => ?_⟩
    change K 0 0 [some (.int b), some (.int e), none, none, none] [] S
    obtain ⟨x, n, rfl, rfl, hx, hn, hk⟩ := h
    have key : ∀ (m i : Nat), i + m = n → K 0 5 [some (.int (nI x)), some (.int (nI n)), some (.long (lN (x ^ i))), none, some (.int (nI i))] [] S := by
      intro m
      induction m with
      | zero =>
        intro i hi
        refine hK (z_in [5]) 60 _ _ _ _ _ (Nat.zero_le _) ?_
        simp (config := { maxSteps := 10000000 }) only [z40, z20, z10, z01, zm0, z0m, ze_s, ze_ok, zt_s, zt_t, zt_f, zl_I, zl_J, zl_R, zl_N, zl_C, zl_K, zl_M, zl_ar0, zl_ar1, zl_ar2, zl_ar3, zl_as0, zl_as1, zl_as2, zl_al, zl_gf, zl_gr, zl_pf, zl_iv, zl_ivn, zlk_n, zlk_c, ztb_n, ztb_c, zin_n, zin_1, zin_c, Int.reduceLT, decide_true, decide_false, Bool.true_and, Bool.and_true, List.length_cons, List.length_nil, Int.reduceSub, Int.reduceEq, Int.natCast_zero, zk_s, z_in_n, z_in_c, z_gt_0, z_gt_s, zst_0, zst_1, zst_s, zsl_0, zsl_1, zsl_s, zc_n, zc_i, zc_l, zc_r, zc_u, zca_n, zca_i, zca_l, zca_r, zca_u, zrt_i, zrt_z, zrt_o, z_cal_0, z_cal_s, true_and, and_true, List.nil_append, List.cons_append, Option.toList_some, Option.toList_none, Nat.reduceAdd, Nat.reduceBEq, Nat.reduceLT, Nat.reduceLeDiff, Nat.reduceSub, Int.reduceAdd, Int.reduceLE, Int.reduceToNat, Int.cast_ofNat_Int, Bool.or_true, Bool.true_or, Bool.or_false, Bool.false_or, Nat.le_refl, Nat.zero_le, or_true, true_or, or_false, false_or, not_true_eq_false, not_false_eq_true, not_false_iff, false_implies, true_implies, eq_self, zo_iconst, zo_bipush, zo_sipush, zo_lconst, zo_ldc, zo_ldc_w, zo_ldc2_w, zo_iload_n, zo_iload, zo_lload_n, zo_lload, zo_aload_n, zo_aload, zo_istore_n, zo_istore, zo_lstore_n, zo_lstore, zo_astore_n, zo_astore, zo_iinc, zo_iadd, zo_isub, zo_imul, zo_iand, zo_ior, zo_ixor, zo_ishl, zo_ishr, zo_iushr, zo_idiv, zo_irem, zo_ladd, zo_lsub, zo_lmul, zo_ldiv, zo_lrem, zo_lcmp, zo_i2l, zo_i2b, zo_i2s, zo_dup, zo_dup2, zo_aconst_null, zo_if_icmp, zo_ifCond, zo_goto, zo_ifnull, zo_ifnonnull, zo_iaload, zo_baload, zo_laload, zo_aaload, zo_iastore, zo_bastore, zo_lastore, zo_arraylength, zo_getfield, zo_putfield, zo_tableswitch, zo_lookupswitch, zo_ireturn, zo_lreturn, zo_areturn, zo_return, zo_invokestatic, zo_invokevirtual, zo_new, zo_invokespecial, zo_newarray, zo_anewarray, zo_aastore, zy_0_1, zy_0_2, zy_0_3, zy_1_1, zy_1_2, zy_2_1, zy_2_2, zy_2_3, zy_3_0, zy_4_3, zy_5_1, zy_5_2, zy_6_5, zy_6_6, zy_6_7, zy_6_8, zy_6_9, zy_6_10, zy_7_2, zy_7_6, zy_7_9, zy_7_10, zy_7_11, zy_7_12, zy_7_14, zy_7_21, zy_7_30, zq_iconst, zq_bipush, zq_sipush, zq_lconst0, zq_lconst1, zq_ldc, zq_ldc_w, zq_ldc2_w, zq_iload0, zq_iload1, zq_iload2, zq_iload3, zq_iload, zq_lload0, zq_lload1, zq_lload2, zq_lload3, zq_lload, zq_aload0, zq_aload1, zq_aload2, zq_aload3, zq_aload, zq_istore0, zq_istore1, zq_istore2, zq_istore3, zq_istore, zq_lstore0, zq_lstore1, zq_lstore2, zq_lstore3, zq_lstore, zq_astore0, zq_astore0N, zq_astore1, zq_astore1N, zq_astore2, zq_astore2N, zq_astore3, zq_astore3N, zq_astore, zq_astoreN, zq_iinc, zq_iadd, zq_isub, zq_imul, zq_iand, zq_ior, zq_ixor, zq_ishl, zq_ishr, zq_iushr, zq_idiv, zq_irem, zq_ladd, zq_lsub, zq_lmul, zq_ldiv, zq_lrem, zq_lcmp, zq_i2l, zq_i2b, zq_i2s, zq_dup_i, zq_dup_r, zq_dup2, zq_null, zq_icmp_eq, zq_if_eq, zq_icmp_ne, zq_if_ne, zq_icmp_lt, zq_if_lt, zq_icmp_ge, zq_if_ge, zq_icmp_gt, zq_if_gt, zq_icmp_le, zq_if_le, zq_goto, zq_ifnull_r, zq_ifnull_n, zq_ifnonnull_r, zq_ifnonnull_n, zq_iaload, zq_baload, zq_laload, zq_aaload, zq_iastore, zq_bastore, zq_lastore, zq_alen, zq_getf, zq_put, zq_tsw, zq_lsw, zq_ireturn, zq_lreturn, zq_areturn, zq_areturnN, zq_return, zq_invokestatic, zq_invokevirtual, zq_new, zq_invokespecial, zq_newarray, zq_anewarray, zq_aastore, zi_m1, zi_0, zi_1, zi_2, zi_3, zi_4, zi_5, zi_6, zi_8, zi_16, zb_m10, zb_m4, zb_m3, zb_m2, zb_6, zb_7, zb_8, zb_9, zb_10, zb_16, zb_20, zb_23, zb_30, zb_32, zb_35, zb_46, zb_48, zb_56, zb_57, zb_59, zb_63, zb_70, zb_98, zb_99, zb_100, zb_111, zb_112, zs_192, zs_255, zs_256, zs_511, zs_512, zs_12345, zf_X7_10_0, zf_X7_19_0, zf_X7_26_0, zf_X7_33_0, zf_X7_39_0, zf_X7_43_0, zf_X7_47_0, zf_X7_50_0, zf_X7_53_0, zf_X7_56_0, zf_X7_59_0, zkc_X7_223, zkl_X7_313, zkl_X7_240, zkl_X7_305, za_C_2, za_C_3, za_C_4, za_C_5, za_C_6, za_C_8, za_C_9, za_C_10, za_C_12, za_C_14, za_C_15, za_C_16, za_C_17, za_C_22, za_C_23, za_C_24, za_C_25, dX7_power_0, dX7_power_1, dX7_power_2, dX7_power_3, dX7_power_5, dX7_power_7, dX7_power_8, dX7_power_11, dX7_power_12, dX7_power_13, dX7_power_14, dX7_power_15, dX7_power_16, dX7_power_19, dX7_power_22, dX7_power_23]
        obtain rfl : i = n := by omega
        simp only [n_le (a := i) (b := i) (by omega) (by omega), n_lt (a := i) (b := i) (by omega) (by omega), n_eq (a := i) (b := i) (by omega) (by omega), n_le (a := i) (b := i) (by omega) (by omega), n_lt (a := i) (b := i) (by omega) (by omega), n_eq (a := i) (b := i) (by omega) (by omega)]
        exact ⟨fun _ => hk, fun c => absurd (Nat.le_refl _) c⟩
      | succ m ih =>
        intro i hi
        refine hK (z_in [5]) 60 _ _ _ _ _ (Nat.zero_le _) ?_
        simp (config := { maxSteps := 10000000 }) only [z40, z20, z10, z01, zm0, z0m, ze_s, ze_ok, zt_s, zt_t, zt_f, zl_I, zl_J, zl_R, zl_N, zl_C, zl_K, zl_M, zl_ar0, zl_ar1, zl_ar2, zl_ar3, zl_as0, zl_as1, zl_as2, zl_al, zl_gf, zl_gr, zl_pf, zl_iv, zl_ivn, zlk_n, zlk_c, ztb_n, ztb_c, zin_n, zin_1, zin_c, Int.reduceLT, decide_true, decide_false, Bool.true_and, Bool.and_true, List.length_cons, List.length_nil, Int.reduceSub, Int.reduceEq, Int.natCast_zero, zk_s, z_in_n, z_in_c, z_gt_0, z_gt_s, zst_0, zst_1, zst_s, zsl_0, zsl_1, zsl_s, zc_n, zc_i, zc_l, zc_r, zc_u, zca_n, zca_i, zca_l, zca_r, zca_u, zrt_i, zrt_z, zrt_o, z_cal_0, z_cal_s, true_and, and_true, List.nil_append, List.cons_append, Option.toList_some, Option.toList_none, Nat.reduceAdd, Nat.reduceBEq, Nat.reduceLT, Nat.reduceLeDiff, Nat.reduceSub, Int.reduceAdd, Int.reduceLE, Int.reduceToNat, Int.cast_ofNat_Int, Bool.or_true, Bool.true_or, Bool.or_false, Bool.false_or, Nat.le_refl, Nat.zero_le, or_true, true_or, or_false, false_or, not_true_eq_false, not_false_eq_true, not_false_iff, false_implies, true_implies, eq_self, zo_iconst, zo_bipush, zo_sipush, zo_lconst, zo_ldc, zo_ldc_w, zo_ldc2_w, zo_iload_n, zo_iload, zo_lload_n, zo_lload, zo_aload_n, zo_aload, zo_istore_n, zo_istore, zo_lstore_n, zo_lstore, zo_astore_n, zo_astore, zo_iinc, zo_iadd, zo_isub, zo_imul, zo_iand, zo_ior, zo_ixor, zo_ishl, zo_ishr, zo_iushr, zo_idiv, zo_irem, zo_ladd, zo_lsub, zo_lmul, zo_ldiv, zo_lrem, zo_lcmp, zo_i2l, zo_i2b, zo_i2s, zo_dup, zo_dup2, zo_aconst_null, zo_if_icmp, zo_ifCond, zo_goto, zo_ifnull, zo_ifnonnull, zo_iaload, zo_baload, zo_laload, zo_aaload, zo_iastore, zo_bastore, zo_lastore, zo_arraylength, zo_getfield, zo_putfield, zo_tableswitch, zo_lookupswitch, zo_ireturn, zo_lreturn, zo_areturn, zo_return, zo_invokestatic, zo_invokevirtual, zo_new, zo_invokespecial, zo_newarray, zo_anewarray, zo_aastore, zy_0_1, zy_0_2, zy_0_3, zy_1_1, zy_1_2, zy_2_1, zy_2_2, zy_2_3, zy_3_0, zy_4_3, zy_5_1, zy_5_2, zy_6_5, zy_6_6, zy_6_7, zy_6_8, zy_6_9, zy_6_10, zy_7_2, zy_7_6, zy_7_9, zy_7_10, zy_7_11, zy_7_12, zy_7_14, zy_7_21, zy_7_30, zq_iconst, zq_bipush, zq_sipush, zq_lconst0, zq_lconst1, zq_ldc, zq_ldc_w, zq_ldc2_w, zq_iload0, zq_iload1, zq_iload2, zq_iload3, zq_iload, zq_lload0, zq_lload1, zq_lload2, zq_lload3, zq_lload, zq_aload0, zq_aload1, zq_aload2, zq_aload3, zq_aload, zq_istore0, zq_istore1, zq_istore2, zq_istore3, zq_istore, zq_lstore0, zq_lstore1, zq_lstore2, zq_lstore3, zq_lstore, zq_astore0, zq_astore0N, zq_astore1, zq_astore1N, zq_astore2, zq_astore2N, zq_astore3, zq_astore3N, zq_astore, zq_astoreN, zq_iinc, zq_iadd, zq_isub, zq_imul, zq_iand, zq_ior, zq_ixor, zq_ishl, zq_ishr, zq_iushr, zq_idiv, zq_irem, zq_ladd, zq_lsub, zq_lmul, zq_ldiv, zq_lrem, zq_lcmp, zq_i2l, zq_i2b, zq_i2s, zq_dup_i, zq_dup_r, zq_dup2, zq_null, zq_icmp_eq, zq_if_eq, zq_icmp_ne, zq_if_ne, zq_icmp_lt, zq_if_lt, zq_icmp_ge, zq_if_ge, zq_icmp_gt, zq_if_gt, zq_icmp_le, zq_if_le, zq_goto, zq_ifnull_r, zq_ifnull_n, zq_ifnonnull_r, zq_ifnonnull_n, zq_iaload, zq_baload, zq_laload, zq_aaload, zq_iastore, zq_bastore, zq_lastore, zq_alen, zq_getf, zq_put, zq_tsw, zq_lsw, zq_ireturn, zq_lreturn, zq_areturn, zq_areturnN, zq_return, zq_invokestatic, zq_invokevirtual, zq_new, zq_invokespecial, zq_newarray, zq_anewarray, zq_aastore, zi_m1, zi_0, zi_1, zi_2, zi_3, zi_4, zi_5, zi_6, zi_8, zi_16, zb_m10, zb_m4, zb_m3, zb_m2, zb_6, zb_7, zb_8, zb_9, zb_10, zb_16, zb_20, zb_23, zb_30, zb_32, zb_35, zb_46, zb_48, zb_56, zb_57, zb_59, zb_63, zb_70, zb_98, zb_99, zb_100, zb_111, zb_112, zs_192, zs_255, zs_256, zs_511, zs_512, zs_12345, zf_X7_10_0, zf_X7_19_0, zf_X7_26_0, zf_X7_33_0, zf_X7_39_0, zf_X7_43_0, zf_X7_47_0, zf_X7_50_0, zf_X7_53_0, zf_X7_56_0, zf_X7_59_0, zkc_X7_223, zkl_X7_313, zkl_X7_240, zkl_X7_305, za_C_2, za_C_3, za_C_4, za_C_5, za_C_6, za_C_8, za_C_9, za_C_10, za_C_12, za_C_14, za_C_15, za_C_16, za_C_17, za_C_22, za_C_23, za_C_24, za_C_25, dX7_power_0, dX7_power_1, dX7_power_2, dX7_power_3, dX7_power_5, dX7_power_7, dX7_power_8, dX7_power_11, dX7_power_12, dX7_power_13, dX7_power_14, dX7_power_15, dX7_power_16, dX7_power_19, dX7_power_22, dX7_power_23]
        simp only [n_le (a := n) (b := i) (by omega) (by omega), n_lt (a := n) (b := i) (by omega) (by omega), n_eq (a := n) (b := i) (by omega) (by omega), n_le (a := i) (b := n) (by omega) (by omega), n_lt (a := i) (b := n) (by omega) (by omega), n_eq (a := i) (b := n) (by omega) (by omega), nI_1, n_l hx, lN_mul]
        exact ⟨fun c => absurd c (by omega), fun _ => ih (i + 1) (by omega)⟩
    refine hK (z_in [5]) 60 _ _ _ _ _ (Nat.zero_le _) ?_
    simp (config := { maxSteps := 10000000 }) only [z40, z20, z10, z01, zm0, z0m, ze_s, ze_ok, zt_s, zt_t, zt_f, zl_I, zl_J, zl_R, zl_N, zl_C, zl_K, zl_M, zl_ar0, zl_ar1, zl_ar2, zl_ar3, zl_as0, zl_as1, zl_as2, zl_al, zl_gf, zl_gr, zl_pf, zl_iv, zl_ivn, zlk_n, zlk_c, ztb_n, ztb_c, zin_n, zin_1, zin_c, Int.reduceLT, decide_true, decide_false, Bool.true_and, Bool.and_true, List.length_cons, List.length_nil, Int.reduceSub, Int.reduceEq, Int.natCast_zero, zk_s, z_in_n, z_in_c, z_gt_0, z_gt_s, zst_0, zst_1, zst_s, zsl_0, zsl_1, zsl_s, zc_n, zc_i, zc_l, zc_r, zc_u, zca_n, zca_i, zca_l, zca_r, zca_u, zrt_i, zrt_z, zrt_o, z_cal_0, z_cal_s, true_and, and_true, List.nil_append, List.cons_append, Option.toList_some, Option.toList_none, Nat.reduceAdd, Nat.reduceBEq, Nat.reduceLT, Nat.reduceLeDiff, Nat.reduceSub, Int.reduceAdd, Int.reduceLE, Int.reduceToNat, Int.cast_ofNat_Int, Bool.or_true, Bool.true_or, Bool.or_false, Bool.false_or, Nat.le_refl, Nat.zero_le, or_true, true_or, or_false, false_or, not_true_eq_false, not_false_eq_true, not_false_iff, false_implies, true_implies, eq_self, zo_iconst, zo_bipush, zo_sipush, zo_lconst, zo_ldc, zo_ldc_w, zo_ldc2_w, zo_iload_n, zo_iload, zo_lload_n, zo_lload, zo_aload_n, zo_aload, zo_istore_n, zo_istore, zo_lstore_n, zo_lstore, zo_astore_n, zo_astore, zo_iinc, zo_iadd, zo_isub, zo_imul, zo_iand, zo_ior, zo_ixor, zo_ishl, zo_ishr, zo_iushr, zo_idiv, zo_irem, zo_ladd, zo_lsub, zo_lmul, zo_ldiv, zo_lrem, zo_lcmp, zo_i2l, zo_i2b, zo_i2s, zo_dup, zo_dup2, zo_aconst_null, zo_if_icmp, zo_ifCond, zo_goto, zo_ifnull, zo_ifnonnull, zo_iaload, zo_baload, zo_laload, zo_aaload, zo_iastore, zo_bastore, zo_lastore, zo_arraylength, zo_getfield, zo_putfield, zo_tableswitch, zo_lookupswitch, zo_ireturn, zo_lreturn, zo_areturn, zo_return, zo_invokestatic, zo_invokevirtual, zo_new, zo_invokespecial, zo_newarray, zo_anewarray, zo_aastore, zy_0_1, zy_0_2, zy_0_3, zy_1_1, zy_1_2, zy_2_1, zy_2_2, zy_2_3, zy_3_0, zy_4_3, zy_5_1, zy_5_2, zy_6_5, zy_6_6, zy_6_7, zy_6_8, zy_6_9, zy_6_10, zy_7_2, zy_7_6, zy_7_9, zy_7_10, zy_7_11, zy_7_12, zy_7_14, zy_7_21, zy_7_30, zq_iconst, zq_bipush, zq_sipush, zq_lconst0, zq_lconst1, zq_ldc, zq_ldc_w, zq_ldc2_w, zq_iload0, zq_iload1, zq_iload2, zq_iload3, zq_iload, zq_lload0, zq_lload1, zq_lload2, zq_lload3, zq_lload, zq_aload0, zq_aload1, zq_aload2, zq_aload3, zq_aload, zq_istore0, zq_istore1, zq_istore2, zq_istore3, zq_istore, zq_lstore0, zq_lstore1, zq_lstore2, zq_lstore3, zq_lstore, zq_astore0, zq_astore0N, zq_astore1, zq_astore1N, zq_astore2, zq_astore2N, zq_astore3, zq_astore3N, zq_astore, zq_astoreN, zq_iinc, zq_iadd, zq_isub, zq_imul, zq_iand, zq_ior, zq_ixor, zq_ishl, zq_ishr, zq_iushr, zq_idiv, zq_irem, zq_ladd, zq_lsub, zq_lmul, zq_ldiv, zq_lrem, zq_lcmp, zq_i2l, zq_i2b, zq_i2s, zq_dup_i, zq_dup_r, zq_dup2, zq_null, zq_icmp_eq, zq_if_eq, zq_icmp_ne, zq_if_ne, zq_icmp_lt, zq_if_lt, zq_icmp_ge, zq_if_ge, zq_icmp_gt, zq_if_gt, zq_icmp_le, zq_if_le, zq_goto, zq_ifnull_r, zq_ifnull_n, zq_ifnonnull_r, zq_ifnonnull_n, zq_iaload, zq_baload, zq_laload, zq_aaload, zq_iastore, zq_bastore, zq_lastore, zq_alen, zq_getf, zq_put, zq_tsw, zq_lsw, zq_ireturn, zq_lreturn, zq_areturn, zq_areturnN, zq_return, zq_invokestatic, zq_invokevirtual, zq_new, zq_invokespecial, zq_newarray, zq_anewarray, zq_aastore, zi_m1, zi_0, zi_1, zi_2, zi_3, zi_4, zi_5, zi_6, zi_8, zi_16, zb_m10, zb_m4, zb_m3, zb_m2, zb_6, zb_7, zb_8, zb_9, zb_10, zb_16, zb_20, zb_23, zb_30, zb_32, zb_35, zb_46, zb_48, zb_56, zb_57, zb_59, zb_63, zb_70, zb_98, zb_99, zb_100, zb_111, zb_112, zs_192, zs_255, zs_256, zs_511, zs_512, zs_12345, zf_X7_10_0, zf_X7_19_0, zf_X7_26_0, zf_X7_33_0, zf_X7_39_0, zf_X7_43_0, zf_X7_47_0, zf_X7_50_0, zf_X7_53_0, zf_X7_56_0, zf_X7_59_0, zkc_X7_223, zkl_X7_313, zkl_X7_240, zkl_X7_305, za_C_2, za_C_3, za_C_4, za_C_5, za_C_6, za_C_8, za_C_9, za_C_10, za_C_12, za_C_14, za_C_15, za_C_16, za_C_17, za_C_22, za_C_23, za_C_24, za_C_25, dX7_power_0, dX7_power_1, dX7_power_2, dX7_power_3, dX7_power_5, dX7_power_7, dX7_power_8, dX7_power_11, dX7_power_12, dX7_power_13, dX7_power_14, dX7_power_15, dX7_power_16, dX7_power_19, dX7_power_22, dX7_power_23]
    exact key n 0 (by omega)
  · exact h.elim
theorem ok_X7_power {tl : List ZE} : z_Ok (z_shC tl) yX7_power cX7_power 5 (some .long) ({ frames := 0, cells := 0, slots := 0, locals := 0 } : Room) 0 wp_X7_power := z_Ok_of pu_X7_power z_fX7_ok z_kX7_ok co_X7_power ⟨by decide, by decide⟩ (by decide +kernel)
theorem l_rem {a b : Nat} (ha : a < 2 ^ 62) (h0 : 0 < b) (hb : b < 2 ^ 62) : lN a - lN a / lN b * lN b = lN (a % b) := pk_lRem (by omega) h0 (by omega)
theorem l_0 {a : Nat} (ha : a < 2 ^ 62) : (lg_cmp (lN a) 0 = 0) ↔ a = 0 := by
  have e : (0 : Int64) = lN 0 := rfl
  unfold lg_cmp
  rw [e]
  simp only [gt_iff_lt, pk_lLT (a := 0) (b := a) (by omega) (by omega), pk_lEQ (a := a) (b := 0) (by omega) (by omega)]
  by_cases h : a = 0
  · simp [h]
  · simp [h, Nat.pos_of_ne_zero h]
theorem gcd_step {a b : Nat} : Nat.gcd b (a % b) = Nat.gcd a b := by rw [Nat.gcd_comm a b, Nat.gcd_rec b a, Nat.gcd_comm]
def wp_X7_commonDivisor : ZW := fun as S k => match as with
  | [.long a, .long b] => ∃ x y : Nat, a = lN x ∧ b = lN y ∧ x < 2 ^ 40 ∧ y < 2 ^ 40 ∧ k (some (.long (lN (Nat.gcd x y)))) S
  | _ => False
theorem wr_X7_commonDivisor {a : Int64} {b : Int64} {S : ZS} {k : Option Value → ZS → Prop} : wp_X7_commonDivisor [.long a, .long b] S k = (∃ x y : Nat, a = lN x ∧ b = lN y ∧ x < 2 ^ 40 ∧ y < 2 ^ 40 ∧ k (some (.long (lN (Nat.gcd x y)))) S) := rfl
def cs_X7_commonDivisor : List (Nat × ZC) := []
set_option maxRecDepth 20000 in
theorem co_X7_commonDivisor {tl : List ZE} : z_csok RX7 ({ frames := 0, cells := 0, slots := 0, locals := 0 } : Room) (z_shC tl) cs_X7_commonDivisor := z_cs0
set_option maxHeartbeats 4000000 in
set_option maxRecDepth 20000 in
theorem pu_X7_commonDivisor {tl : List ZE} : z_Pure cX7_commonDivisor 11 (z_shC tl) z_fX7 cs_X7_commonDivisor z_kcX7 z_klX7 (some .long) 0 wp_X7_commonDivisor := by
  intro as S post h
  unfold wp_X7_commonDivisor at h
  split at h
  · rename_i a b
    refine ⟨Nat.le_of_ble_eq_true rfl, fun K hK => ?_⟩
    change K 0 0 [some (.long a), none, some (.long b), none, none, none, none, none, none, none, none] [] S
    obtain ⟨x, y, rfl, rfl, hx, hy, hk⟩ := h
    have ev0 : ∀ (a i : Nat) (c9 : Option Value), i ≤ 100 → Nat.gcd a 0 = Nat.gcd x y → K 0 9 [some (.long (lN x)), none, some (.long (lN y)), none, some (.long (lN a)), none, some (.long (lN 0)), none, some (.int (nI i)), c9, none] [] S := by
      intro a i c9 hi hg
      refine hK (z_in [9]) 80 _ _ _ _ _ (Nat.zero_le _) ?_
      simp (config := { maxSteps := 10000000 }) only [z40, z20, z10, z01, zm0, z0m, ze_s, ze_ok, zt_s, zt_t, zt_f, zl_I, zl_J, zl_R, zl_N, zl_C, zl_K, zl_M, zl_ar0, zl_ar1, zl_ar2, zl_ar3, zl_as0, zl_as1, zl_as2, zl_al, zl_gf, zl_gr, zl_pf, zl_iv, zl_ivn, zlk_n, zlk_c, ztb_n, ztb_c, zin_n, zin_1, zin_c, Int.reduceLT, decide_true, decide_false, Bool.true_and, Bool.and_true, List.length_cons, List.length_nil, Int.reduceSub, Int.reduceEq, Int.natCast_zero, zk_s, z_in_n, z_in_c, z_gt_0, z_gt_s, zst_0, zst_1, zst_s, zsl_0, zsl_1, zsl_s, zc_n, zc_i, zc_l, zc_r, zc_u, zca_n, zca_i, zca_l, zca_r, zca_u, zrt_i, zrt_z, zrt_o, z_cal_0, z_cal_s, true_and, and_true, List.nil_append, List.cons_append, Option.toList_some, Option.toList_none, Nat.reduceAdd, Nat.reduceBEq, Nat.reduceLT, Nat.reduceLeDiff, Nat.reduceSub, Int.reduceAdd, Int.reduceLE, Int.reduceToNat, Int.cast_ofNat_Int, Bool.or_true, Bool.true_or, Bool.or_false, Bool.false_or, Nat.le_refl, Nat.zero_le, or_true, true_or, or_false, false_or, not_true_eq_false, not_false_eq_true, not_false_iff, false_implies, true_implies, eq_self, zo_iconst, zo_bipush, zo_sipush, zo_lconst, zo_ldc, zo_ldc_w, zo_ldc2_w, zo_iload_n, zo_iload, zo_lload_n, zo_lload, zo_aload_n, zo_aload, zo_istore_n, zo_istore, zo_lstore_n, zo_lstore, zo_astore_n, zo_astore, zo_iinc, zo_iadd, zo_isub, zo_imul, zo_iand, zo_ior, zo_ixor, zo_ishl, zo_ishr, zo_iushr, zo_idiv, zo_irem, zo_ladd, zo_lsub, zo_lmul, zo_ldiv, zo_lrem, zo_lcmp, zo_i2l, zo_i2b, zo_i2s, zo_dup, zo_dup2, zo_aconst_null, zo_if_icmp, zo_ifCond, zo_goto, zo_ifnull, zo_ifnonnull, zo_iaload, zo_baload, zo_laload, zo_aaload, zo_iastore, zo_bastore, zo_lastore, zo_arraylength, zo_getfield, zo_putfield, zo_tableswitch, zo_lookupswitch, zo_ireturn, zo_lreturn, zo_areturn, zo_return, zo_invokestatic, zo_invokevirtual, zo_new, zo_invokespecial, zo_newarray, zo_anewarray, zo_aastore, zy_0_1, zy_0_2, zy_0_3, zy_1_1, zy_1_2, zy_2_1, zy_2_2, zy_2_3, zy_3_0, zy_4_3, zy_5_1, zy_5_2, zy_6_5, zy_6_6, zy_6_7, zy_6_8, zy_6_9, zy_6_10, zy_7_2, zy_7_6, zy_7_9, zy_7_10, zy_7_11, zy_7_12, zy_7_14, zy_7_21, zy_7_30, zq_iconst, zq_bipush, zq_sipush, zq_lconst0, zq_lconst1, zq_ldc, zq_ldc_w, zq_ldc2_w, zq_iload0, zq_iload1, zq_iload2, zq_iload3, zq_iload, zq_lload0, zq_lload1, zq_lload2, zq_lload3, zq_lload, zq_aload0, zq_aload1, zq_aload2, zq_aload3, zq_aload, zq_istore0, zq_istore1, zq_istore2, zq_istore3, zq_istore, zq_lstore0, zq_lstore1, zq_lstore2, zq_lstore3, zq_lstore, zq_astore0, zq_astore0N, zq_astore1, zq_astore1N, zq_astore2, zq_astore2N, zq_astore3, zq_astore3N, zq_astore, zq_astoreN, zq_iinc, zq_iadd, zq_isub, zq_imul, zq_iand, zq_ior, zq_ixor, zq_ishl, zq_ishr, zq_iushr, zq_idiv, zq_irem, zq_ladd, zq_lsub, zq_lmul, zq_ldiv, zq_lrem, zq_lcmp, zq_i2l, zq_i2b, zq_i2s, zq_dup_i, zq_dup_r, zq_dup2, zq_null, zq_icmp_eq, zq_if_eq, zq_icmp_ne, zq_if_ne, zq_icmp_lt, zq_if_lt, zq_icmp_ge, zq_if_ge, zq_icmp_gt, zq_if_gt, zq_icmp_le, zq_if_le, zq_goto, zq_ifnull_r, zq_ifnull_n, zq_ifnonnull_r, zq_ifnonnull_n, zq_iaload, zq_baload, zq_laload, zq_aaload, zq_iastore, zq_bastore, zq_lastore, zq_alen, zq_getf, zq_put, zq_tsw, zq_lsw, zq_ireturn, zq_lreturn, zq_areturn, zq_areturnN, zq_return, zq_invokestatic, zq_invokevirtual, zq_new, zq_invokespecial, zq_newarray, zq_anewarray, zq_aastore, zi_m1, zi_0, zi_1, zi_2, zi_3, zi_4, zi_5, zi_6, zi_8, zi_16, zb_m10, zb_m4, zb_m3, zb_m2, zb_6, zb_7, zb_8, zb_9, zb_10, zb_16, zb_20, zb_23, zb_30, zb_32, zb_35, zb_46, zb_48, zb_56, zb_57, zb_59, zb_63, zb_70, zb_98, zb_99, zb_100, zb_111, zb_112, zs_192, zs_255, zs_256, zs_511, zs_512, zs_12345, zf_X7_10_0, zf_X7_19_0, zf_X7_26_0, zf_X7_33_0, zf_X7_39_0, zf_X7_43_0, zf_X7_47_0, zf_X7_50_0, zf_X7_53_0, zf_X7_56_0, zf_X7_59_0, zkc_X7_223, zkl_X7_313, zkl_X7_240, zkl_X7_305, za_C_2, za_C_3, za_C_4, za_C_5, za_C_6, za_C_8, za_C_9, za_C_10, za_C_12, za_C_14, za_C_15, za_C_16, za_C_17, za_C_22, za_C_23, za_C_24, za_C_25, dX7_commonDivisor_0, dX7_commonDivisor_1, dX7_commonDivisor_3, dX7_commonDivisor_4, dX7_commonDivisor_6, dX7_commonDivisor_7, dX7_commonDivisor_9, dX7_commonDivisor_11, dX7_commonDivisor_13, dX7_commonDivisor_16, dX7_commonDivisor_18, dX7_commonDivisor_19, dX7_commonDivisor_20, dX7_commonDivisor_23, dX7_commonDivisor_25, dX7_commonDivisor_27, dX7_commonDivisor_28, dX7_commonDivisor_30, dX7_commonDivisor_32, dX7_commonDivisor_34, dX7_commonDivisor_36, dX7_commonDivisor_38, dX7_commonDivisor_41, dX7_commonDivisor_44, dX7_commonDivisor_46]
      rw [Nat.gcd_zero_right] at hg
      rw [hg]
      exact ⟨fun _ => hk, fun _ => ⟨fun _ => hk, fun c => absurd ((l_0 (a := 0) (by omega)).mpr rfl) c⟩⟩
    have ev1 : ∀ (a b i : Nat) (c9 : Option Value), a < 2 ^ 40 → b < 2 ^ 40 → 0 < b → i < 100 → (∀ c9 : Option Value, K 0 9 [some (.long (lN x)), none, some (.long (lN y)), none, some (.long (lN b)), none, some (.long (lN (a % b))), none, some (.int (nI (i + 1))), c9, none] [] S) → K 0 9 [some (.long (lN x)), none, some (.long (lN y)), none, some (.long (lN a)), none, some (.long (lN b)), none, some (.int (nI i)), c9, none] [] S := by
      intro a b i c9 ha hb h0 hi hK2
      refine hK (z_in [9]) 80 _ _ _ _ _ (Nat.zero_le _) ?_
      simp (config := { maxSteps := 10000000 }) only [z40, z20, z10, z01, zm0, z0m, ze_s, ze_ok, zt_s, zt_t, zt_f, zl_I, zl_J, zl_R, zl_N, zl_C, zl_K, zl_M, zl_ar0, zl_ar1, zl_ar2, zl_ar3, zl_as0, zl_as1, zl_as2, zl_al, zl_gf, zl_gr, zl_pf, zl_iv, zl_ivn, zlk_n, zlk_c, ztb_n, ztb_c, zin_n, zin_1, zin_c, Int.reduceLT, decide_true, decide_false, Bool.true_and, Bool.and_true, List.length_cons, List.length_nil, Int.reduceSub, Int.reduceEq, Int.natCast_zero, zk_s, z_in_n, z_in_c, z_gt_0, z_gt_s, zst_0, zst_1, zst_s, zsl_0, zsl_1, zsl_s, zc_n, zc_i, zc_l, zc_r, zc_u, zca_n, zca_i, zca_l, zca_r, zca_u, zrt_i, zrt_z, zrt_o, z_cal_0, z_cal_s, true_and, and_true, List.nil_append, List.cons_append, Option.toList_some, Option.toList_none, Nat.reduceAdd, Nat.reduceBEq, Nat.reduceLT, Nat.reduceLeDiff, Nat.reduceSub, Int.reduceAdd, Int.reduceLE, Int.reduceToNat, Int.cast_ofNat_Int, Bool.or_true, Bool.true_or, Bool.or_false, Bool.false_or, Nat.le_refl, Nat.zero_le, or_true, true_or, or_false, false_or, not_true_eq_false, not_false_eq_true, not_false_iff, false_implies, true_implies, eq_self, zo_iconst, zo_bipush, zo_sipush, zo_lconst, zo_ldc, zo_ldc_w, zo_ldc2_w, zo_iload_n, zo_iload, zo_lload_n, zo_lload, zo_aload_n, zo_aload, zo_istore_n, zo_istore, zo_lstore_n, zo_lstore, zo_astore_n, zo_astore, zo_iinc, zo_iadd, zo_isub, zo_imul, zo_iand, zo_ior, zo_ixor, zo_ishl, zo_ishr, zo_iushr, zo_idiv, zo_irem, zo_ladd, zo_lsub, zo_lmul, zo_ldiv, zo_lrem, zo_lcmp, zo_i2l, zo_i2b, zo_i2s, zo_dup, zo_dup2, zo_aconst_null, zo_if_icmp, zo_ifCond, zo_goto, zo_ifnull, zo_ifnonnull, zo_iaload, zo_baload, zo_laload, zo_aaload, zo_iastore, zo_bastore, zo_lastore, zo_arraylength, zo_getfield, zo_putfield, zo_tableswitch, zo_lookupswitch, zo_ireturn, zo_lreturn, zo_areturn, zo_return, zo_invokestatic, zo_invokevirtual, zo_new, zo_invokespecial, zo_newarray, zo_anewarray, zo_aastore, zy_0_1, zy_0_2, zy_0_3, zy_1_1, zy_1_2, zy_2_1, zy_2_2, zy_2_3, zy_3_0, zy_4_3, zy_5_1, zy_5_2, zy_6_5, zy_6_6, zy_6_7, zy_6_8, zy_6_9, zy_6_10, zy_7_2, zy_7_6, zy_7_9, zy_7_10, zy_7_11, zy_7_12, zy_7_14, zy_7_21, zy_7_30, zq_iconst, zq_bipush, zq_sipush, zq_lconst0, zq_lconst1, zq_ldc, zq_ldc_w, zq_ldc2_w, zq_iload0, zq_iload1, zq_iload2, zq_iload3, zq_iload, zq_lload0, zq_lload1, zq_lload2, zq_lload3, zq_lload, zq_aload0, zq_aload1, zq_aload2, zq_aload3, zq_aload, zq_istore0, zq_istore1, zq_istore2, zq_istore3, zq_istore, zq_lstore0, zq_lstore1, zq_lstore2, zq_lstore3, zq_lstore, zq_astore0, zq_astore0N, zq_astore1, zq_astore1N, zq_astore2, zq_astore2N, zq_astore3, zq_astore3N, zq_astore, zq_astoreN, zq_iinc, zq_iadd, zq_isub, zq_imul, zq_iand, zq_ior, zq_ixor, zq_ishl, zq_ishr, zq_iushr, zq_idiv, zq_irem, zq_ladd, zq_lsub, zq_lmul, zq_ldiv, zq_lrem, zq_lcmp, zq_i2l, zq_i2b, zq_i2s, zq_dup_i, zq_dup_r, zq_dup2, zq_null, zq_icmp_eq, zq_if_eq, zq_icmp_ne, zq_if_ne, zq_icmp_lt, zq_if_lt, zq_icmp_ge, zq_if_ge, zq_icmp_gt, zq_if_gt, zq_icmp_le, zq_if_le, zq_goto, zq_ifnull_r, zq_ifnull_n, zq_ifnonnull_r, zq_ifnonnull_n, zq_iaload, zq_baload, zq_laload, zq_aaload, zq_iastore, zq_bastore, zq_lastore, zq_alen, zq_getf, zq_put, zq_tsw, zq_lsw, zq_ireturn, zq_lreturn, zq_areturn, zq_areturnN, zq_return, zq_invokestatic, zq_invokevirtual, zq_new, zq_invokespecial, zq_newarray, zq_anewarray, zq_aastore, zi_m1, zi_0, zi_1, zi_2, zi_3, zi_4, zi_5, zi_6, zi_8, zi_16, zb_m10, zb_m4, zb_m3, zb_m2, zb_6, zb_7, zb_8, zb_9, zb_10, zb_16, zb_20, zb_23, zb_30, zb_32, zb_35, zb_46, zb_48, zb_56, zb_57, zb_59, zb_63, zb_70, zb_98, zb_99, zb_100, zb_111, zb_112, zs_192, zs_255, zs_256, zs_511, zs_512, zs_12345, zf_X7_10_0, zf_X7_19_0, zf_X7_26_0, zf_X7_33_0, zf_X7_39_0, zf_X7_43_0, zf_X7_47_0, zf_X7_50_0, zf_X7_53_0, zf_X7_56_0, zf_X7_59_0, zkc_X7_223, zkl_X7_313, zkl_X7_240, zkl_X7_305, za_C_2, za_C_3, za_C_4, za_C_5, za_C_6, za_C_8, za_C_9, za_C_10, za_C_12, za_C_14, za_C_15, za_C_16, za_C_17, za_C_22, za_C_23, za_C_24, za_C_25, dX7_commonDivisor_0, dX7_commonDivisor_1, dX7_commonDivisor_3, dX7_commonDivisor_4, dX7_commonDivisor_6, dX7_commonDivisor_7, dX7_commonDivisor_9, dX7_commonDivisor_11, dX7_commonDivisor_13, dX7_commonDivisor_16, dX7_commonDivisor_18, dX7_commonDivisor_19, dX7_commonDivisor_20, dX7_commonDivisor_23, dX7_commonDivisor_25, dX7_commonDivisor_27, dX7_commonDivisor_28, dX7_commonDivisor_30, dX7_commonDivisor_32, dX7_commonDivisor_34, dX7_commonDivisor_36, dX7_commonDivisor_38, dX7_commonDivisor_41, dX7_commonDivisor_44, dX7_commonDivisor_46]
      have nb : ¬ lN b = 0 := by rw [show (0 : Int64) = lN 0 from rfl, pk_lEQ (a := b) (b := 0) (by omega) (by omega)]; omega
      simp only [n_geL (n := i) (M := 100) 100 rfl (by omega) (by omega), n_leL (n := i) (M := 100) 100 rfl (by omega) (by omega), n_ltL (n := i) (M := 100) 100 rfl (by omega) (by omega), n_gtL (n := i) (M := 100) 100 rfl (by omega) (by omega), n_eqL (n := i) (M := 100) 100 rfl (by omega) (by omega), l_rem (a := a) (b := b) (by omega) h0 (by omega), nI_1]
      exact ⟨fun c => absurd c (by omega), fun _ => ⟨fun c => absurd ((l_0 (by omega)).mp c) (by omega), fun _ => ⟨nb, hK2 _⟩⟩⟩
    have key : ∀ (kk a b i : Nat) (c9 : Option Value), kk ≤ 40 → a < 2 ^ 40 → b < 2 ^ kk → i + 2 * kk + 1 ≤ 100 → Nat.gcd a b = Nat.gcd x y → K 0 9 [some (.long (lN x)), none, some (.long (lN y)), none, some (.long (lN a)), none, some (.long (lN b)), none, some (.int (nI i)), c9, none] [] S := by
      intro kk
      induction kk with
      | zero =>
        intro a b i c9 h40 ha hb hi hg
        obtain rfl : b = 0 := by simpa using hb
        exact ev0 a i c9 (by omega) hg
      | succ kk ih =>
        intro a b i c9 h40 ha hb hi hg
        have hp : 2 ^ (kk + 1) ≤ 2 ^ 40 := Nat.pow_le_pow_right (by omega) (by omega)
        rcases Nat.eq_zero_or_pos b with rfl | h0
        · exact ev0 a i c9 (by omega) hg
        · refine ev1 a b i c9 ha (by omega) h0 (by omega) (fun c9 => ?_)
          have hr : a % b < b := Nat.mod_lt _ h0
          have g1 : Nat.gcd b (a % b) = Nat.gcd x y := by rw [gcd_step, hg]
          rcases Nat.eq_zero_or_pos (a % b) with e | h1
          · rw [e] at g1 ⊢
            exact ev0 b (i + 1) c9 (by omega) g1
          · refine ev1 b (a % b) (i + 1) c9 (by omega) (by omega) h1 (by omega) (fun c9 => ?_)
            have hr2 : b % (a % b) < a % b := Nat.mod_lt _ h1
            have hd := Nat.div_add_mod b (a % b)
            have hq : 1 ≤ b / (a % b) := (Nat.one_le_div_iff h1).mpr (by omega)
            have hm : (a % b) * 1 ≤ (a % b) * (b / (a % b)) := Nat.mul_le_mul_left _ hq
            have h2 : 2 ^ (kk + 1) = 2 * 2 ^ kk := by rw [Nat.pow_succ]; omega
            exact ih (a % b) (b % (a % b)) (i + 1 + 1) c9 (by omega) (by omega) (by omega) (by omega) (by rw [gcd_step, g1])
    refine hK (z_in [9]) 80 _ _ _ _ _ (Nat.zero_le _) ?_
    simp (config := { maxSteps := 10000000 }) only [z40, z20, z10, z01, zm0, z0m, ze_s, ze_ok, zt_s, zt_t, zt_f, zl_I, zl_J, zl_R, zl_N, zl_C, zl_K, zl_M, zl_ar0, zl_ar1, zl_ar2, zl_ar3, zl_as0, zl_as1, zl_as2, zl_al, zl_gf, zl_gr, zl_pf, zl_iv, zl_ivn, zlk_n, zlk_c, ztb_n, ztb_c, zin_n, zin_1, zin_c, Int.reduceLT, decide_true, decide_false, Bool.true_and, Bool.and_true, List.length_cons, List.length_nil, Int.reduceSub, Int.reduceEq, Int.natCast_zero, zk_s, z_in_n, z_in_c, z_gt_0, z_gt_s, zst_0, zst_1, zst_s, zsl_0, zsl_1, zsl_s, zc_n, zc_i, zc_l, zc_r, zc_u, zca_n, zca_i, zca_l, zca_r, zca_u, zrt_i, zrt_z, zrt_o, z_cal_0, z_cal_s, true_and, and_true, List.nil_append, List.cons_append, Option.toList_some, Option.toList_none, Nat.reduceAdd, Nat.reduceBEq, Nat.reduceLT, Nat.reduceLeDiff, Nat.reduceSub, Int.reduceAdd, Int.reduceLE, Int.reduceToNat, Int.cast_ofNat_Int, Bool.or_true, Bool.true_or, Bool.or_false, Bool.false_or, Nat.le_refl, Nat.zero_le, or_true, true_or, or_false, false_or, not_true_eq_false, not_false_eq_true, not_false_iff, false_implies, true_implies, eq_self, zo_iconst, zo_bipush, zo_sipush, zo_lconst, zo_ldc, zo_ldc_w, zo_ldc2_w, zo_iload_n, zo_iload, zo_lload_n, zo_lload, zo_aload_n, zo_aload, zo_istore_n, zo_istore, zo_lstore_n, zo_lstore, zo_astore_n, zo_astore, zo_iinc, zo_iadd, zo_isub, zo_imul, zo_iand, zo_ior, zo_ixor, zo_ishl, zo_ishr, zo_iushr, zo_idiv, zo_irem, zo_ladd, zo_lsub, zo_lmul, zo_ldiv, zo_lrem, zo_lcmp, zo_i2l, zo_i2b, zo_i2s, zo_dup, zo_dup2, zo_aconst_null, zo_if_icmp, zo_ifCond, zo_goto, zo_ifnull, zo_ifnonnull, zo_iaload, zo_baload, zo_laload, zo_aaload, zo_iastore, zo_bastore, zo_lastore, zo_arraylength, zo_getfield, zo_putfield, zo_tableswitch, zo_lookupswitch, zo_ireturn, zo_lreturn, zo_areturn, zo_return, zo_invokestatic, zo_invokevirtual, zo_new, zo_invokespecial, zo_newarray, zo_anewarray, zo_aastore, zy_0_1, zy_0_2, zy_0_3, zy_1_1, zy_1_2, zy_2_1, zy_2_2, zy_2_3, zy_3_0, zy_4_3, zy_5_1, zy_5_2, zy_6_5, zy_6_6, zy_6_7, zy_6_8, zy_6_9, zy_6_10, zy_7_2, zy_7_6, zy_7_9, zy_7_10, zy_7_11, zy_7_12, zy_7_14, zy_7_21, zy_7_30, zq_iconst, zq_bipush, zq_sipush, zq_lconst0, zq_lconst1, zq_ldc, zq_ldc_w, zq_ldc2_w, zq_iload0, zq_iload1, zq_iload2, zq_iload3, zq_iload, zq_lload0, zq_lload1, zq_lload2, zq_lload3, zq_lload, zq_aload0, zq_aload1, zq_aload2, zq_aload3, zq_aload, zq_istore0, zq_istore1, zq_istore2, zq_istore3, zq_istore, zq_lstore0, zq_lstore1, zq_lstore2, zq_lstore3, zq_lstore, zq_astore0, zq_astore0N, zq_astore1, zq_astore1N, zq_astore2, zq_astore2N, zq_astore3, zq_astore3N, zq_astore, zq_astoreN, zq_iinc, zq_iadd, zq_isub, zq_imul, zq_iand, zq_ior, zq_ixor, zq_ishl, zq_ishr, zq_iushr, zq_idiv, zq_irem, zq_ladd, zq_lsub, zq_lmul, zq_ldiv, zq_lrem, zq_lcmp, zq_i2l, zq_i2b, zq_i2s, zq_dup_i, zq_dup_r, zq_dup2, zq_null, zq_icmp_eq, zq_if_eq, zq_icmp_ne, zq_if_ne, zq_icmp_lt, zq_if_lt, zq_icmp_ge, zq_if_ge, zq_icmp_gt, zq_if_gt, zq_icmp_le, zq_if_le, zq_goto, zq_ifnull_r, zq_ifnull_n, zq_ifnonnull_r, zq_ifnonnull_n, zq_iaload, zq_baload, zq_laload, zq_aaload, zq_iastore, zq_bastore, zq_lastore, zq_alen, zq_getf, zq_put, zq_tsw, zq_lsw, zq_ireturn, zq_lreturn, zq_areturn, zq_areturnN, zq_return, zq_invokestatic, zq_invokevirtual, zq_new, zq_invokespecial, zq_newarray, zq_anewarray, zq_aastore, zi_m1, zi_0, zi_1, zi_2, zi_3, zi_4, zi_5, zi_6, zi_8, zi_16, zb_m10, zb_m4, zb_m3, zb_m2, zb_6, zb_7, zb_8, zb_9, zb_10, zb_16, zb_20, zb_23, zb_30, zb_32, zb_35, zb_46, zb_48, zb_56, zb_57, zb_59, zb_63, zb_70, zb_98, zb_99, zb_100, zb_111, zb_112, zs_192, zs_255, zs_256, zs_511, zs_512, zs_12345, zf_X7_10_0, zf_X7_19_0, zf_X7_26_0, zf_X7_33_0, zf_X7_39_0, zf_X7_43_0, zf_X7_47_0, zf_X7_50_0, zf_X7_53_0, zf_X7_56_0, zf_X7_59_0, zkc_X7_223, zkl_X7_313, zkl_X7_240, zkl_X7_305, za_C_2, za_C_3, za_C_4, za_C_5, za_C_6, za_C_8, za_C_9, za_C_10, za_C_12, za_C_14, za_C_15, za_C_16, za_C_17, za_C_22, za_C_23, za_C_24, za_C_25, dX7_commonDivisor_0, dX7_commonDivisor_1, dX7_commonDivisor_3, dX7_commonDivisor_4, dX7_commonDivisor_6, dX7_commonDivisor_7, dX7_commonDivisor_9, dX7_commonDivisor_11, dX7_commonDivisor_13, dX7_commonDivisor_16, dX7_commonDivisor_18, dX7_commonDivisor_19, dX7_commonDivisor_20, dX7_commonDivisor_23, dX7_commonDivisor_25, dX7_commonDivisor_27, dX7_commonDivisor_28, dX7_commonDivisor_30, dX7_commonDivisor_32, dX7_commonDivisor_34, dX7_commonDivisor_36, dX7_commonDivisor_38, dX7_commonDivisor_41, dX7_commonDivisor_44, dX7_commonDivisor_46]
    exact key 40 x y 0 none (by omega) hx hy (by omega) rfl
  · exact h.elim
theorem ok_X7_commonDivisor {tl : List ZE} : z_Ok (z_shC tl) yX7_commonDivisor cX7_commonDivisor 11 (some .long) ({ frames := 0, cells := 0, slots := 0, locals := 0 } : Room) 0 wp_X7_commonDivisor := z_Ok_of pu_X7_commonDivisor z_fX7_ok z_kX7_ok co_X7_commonDivisor ⟨by decide, by decide⟩ (by decide +kernel)
def wp_X7_inLowestTerms : ZW := fun as S k => match as with
  | [.long a, .long b, .int w] => ∃ x y : Nat, a = lN x ∧ b = lN y ∧ x < 2 ^ 40 ∧ y < 2 ^ 40 ∧ 0 < y ∧ k (some (.long (lN ((if w = 0 then x else y) / Nat.gcd x y)))) S
  | _ => False
theorem wr_X7_inLowestTerms {a : Int64} {b : Int64} {w : Int32} {S : ZS} {k : Option Value → ZS → Prop} : wp_X7_inLowestTerms [.long a, .long b, .int w] S k = (∃ x y : Nat, a = lN x ∧ b = lN y ∧ x < 2 ^ 40 ∧ y < 2 ^ 40 ∧ 0 < y ∧ k (some (.long (lN ((if w = 0 then x else y) / Nat.gcd x y)))) S) := rfl
def cs_X7_inLowestTerms : List (Nat × ZC) := [(315, (2, 0, true, wp_X7_commonDivisor))]
theorem cr_X7_inLowestTerms_315 : cs_X7_inLowestTerms.lookup 315 = some (2, 0, true, wp_X7_commonDivisor) := rfl
set_option maxRecDepth 20000 in
theorem co_X7_inLowestTerms {tl : List ZE} : z_csok RX7 ({ frames := 1, cells := 0, slots := 0, locals := 30 } : Room) (z_shC tl) cs_X7_inLowestTerms := z_cs2 (z_csS ok_X7_commonDivisor (z_g 503 (by decide +kernel) rfl) (z_g 504 (by decide +kernel) rfl) (z_g 44 (by decide +kernel) rfl) (z_g 505 (by decide +kernel) rfl) rfl rfl (by decide +kernel) ⟨by decide, by decide⟩)
  (z_cs0)
set_option maxHeartbeats 4000000 in
set_option maxRecDepth 20000 in
theorem pu_X7_inLowestTerms {tl : List ZE} : z_Pure cX7_inLowestTerms 9 (z_shC tl) z_fX7 cs_X7_inLowestTerms z_kcX7 z_klX7 (some .long) 0 wp_X7_inLowestTerms := by
  intro as S post h
  unfold wp_X7_inLowestTerms at h
  split at h
  · rename_i a b w
    refine ⟨Nat.le_of_ble_eq_true rfl, fun K hK => ?_⟩
    change K 0 0 [some (.long a), none, some (.long b), none, some (.int w), none, none, none, none] [] S
    obtain ⟨x, y, rfl, rfl, hx, hy, h0, hk⟩ := h
    have hg : 0 < Nat.gcd x y := Nat.gcd_pos_of_pos_right _ h0
    have hg2 : Nat.gcd x y ≤ y := Nat.gcd_le_right _ h0
    refine hK (z_in []) 80 _ _ _ _ _ (Nat.zero_le _) ?_
    simp (config := { maxSteps := 10000000 }) only [z40, z20, z10, z01, zm0, z0m, ze_s, ze_ok, zt_s, zt_t, zt_f, zl_I, zl_J, zl_R, zl_N, zl_C, zl_K, zl_M, zl_ar0, zl_ar1, zl_ar2, zl_ar3, zl_as0, zl_as1, zl_as2, zl_al, zl_gf, zl_gr, zl_pf, zl_iv, zl_ivn, zlk_n, zlk_c, ztb_n, ztb_c, zin_n, zin_1, zin_c, Int.reduceLT, decide_true, decide_false, Bool.true_and, Bool.and_true, List.length_cons, List.length_nil, Int.reduceSub, Int.reduceEq, Int.natCast_zero, zk_s, z_in_n, z_in_c, z_gt_0, z_gt_s, zst_0, zst_1, zst_s, zsl_0, zsl_1, zsl_s, zc_n, zc_i, zc_l, zc_r, zc_u, zca_n, zca_i, zca_l, zca_r, zca_u, zrt_i, zrt_z, zrt_o, z_cal_0, z_cal_s, true_and, and_true, List.nil_append, List.cons_append, Option.toList_some, Option.toList_none, Nat.reduceAdd, Nat.reduceBEq, Nat.reduceLT, Nat.reduceLeDiff, Nat.reduceSub, Int.reduceAdd, Int.reduceLE, Int.reduceToNat, Int.cast_ofNat_Int, Bool.or_true, Bool.true_or, Bool.or_false, Bool.false_or, Nat.le_refl, Nat.zero_le, or_true, true_or, or_false, false_or, not_true_eq_false, not_false_eq_true, not_false_iff, false_implies, true_implies, eq_self, zo_iconst, zo_bipush, zo_sipush, zo_lconst, zo_ldc, zo_ldc_w, zo_ldc2_w, zo_iload_n, zo_iload, zo_lload_n, zo_lload, zo_aload_n, zo_aload, zo_istore_n, zo_istore, zo_lstore_n, zo_lstore, zo_astore_n, zo_astore, zo_iinc, zo_iadd, zo_isub, zo_imul, zo_iand, zo_ior, zo_ixor, zo_ishl, zo_ishr, zo_iushr, zo_idiv, zo_irem, zo_ladd, zo_lsub, zo_lmul, zo_ldiv, zo_lrem, zo_lcmp, zo_i2l, zo_i2b, zo_i2s, zo_dup, zo_dup2, zo_aconst_null, zo_if_icmp, zo_ifCond, zo_goto, zo_ifnull, zo_ifnonnull, zo_iaload, zo_baload, zo_laload, zo_aaload, zo_iastore, zo_bastore, zo_lastore, zo_arraylength, zo_getfield, zo_putfield, zo_tableswitch, zo_lookupswitch, zo_ireturn, zo_lreturn, zo_areturn, zo_return, zo_invokestatic, zo_invokevirtual, zo_new, zo_invokespecial, zo_newarray, zo_anewarray, zo_aastore, zy_0_1, zy_0_2, zy_0_3, zy_1_1, zy_1_2, zy_2_1, zy_2_2, zy_2_3, zy_3_0, zy_4_3, zy_5_1, zy_5_2, zy_6_5, zy_6_6, zy_6_7, zy_6_8, zy_6_9, zy_6_10, zy_7_2, zy_7_6, zy_7_9, zy_7_10, zy_7_11, zy_7_12, zy_7_14, zy_7_21, zy_7_30, zq_iconst, zq_bipush, zq_sipush, zq_lconst0, zq_lconst1, zq_ldc, zq_ldc_w, zq_ldc2_w, zq_iload0, zq_iload1, zq_iload2, zq_iload3, zq_iload, zq_lload0, zq_lload1, zq_lload2, zq_lload3, zq_lload, zq_aload0, zq_aload1, zq_aload2, zq_aload3, zq_aload, zq_istore0, zq_istore1, zq_istore2, zq_istore3, zq_istore, zq_lstore0, zq_lstore1, zq_lstore2, zq_lstore3, zq_lstore, zq_astore0, zq_astore0N, zq_astore1, zq_astore1N, zq_astore2, zq_astore2N, zq_astore3, zq_astore3N, zq_astore, zq_astoreN, zq_iinc, zq_iadd, zq_isub, zq_imul, zq_iand, zq_ior, zq_ixor, zq_ishl, zq_ishr, zq_iushr, zq_idiv, zq_irem, zq_ladd, zq_lsub, zq_lmul, zq_ldiv, zq_lrem, zq_lcmp, zq_i2l, zq_i2b, zq_i2s, zq_dup_i, zq_dup_r, zq_dup2, zq_null, zq_icmp_eq, zq_if_eq, zq_icmp_ne, zq_if_ne, zq_icmp_lt, zq_if_lt, zq_icmp_ge, zq_if_ge, zq_icmp_gt, zq_if_gt, zq_icmp_le, zq_if_le, zq_goto, zq_ifnull_r, zq_ifnull_n, zq_ifnonnull_r, zq_ifnonnull_n, zq_iaload, zq_baload, zq_laload, zq_aaload, zq_iastore, zq_bastore, zq_lastore, zq_alen, zq_getf, zq_put, zq_tsw, zq_lsw, zq_ireturn, zq_lreturn, zq_areturn, zq_areturnN, zq_return, zq_invokestatic, zq_invokevirtual, zq_new, zq_invokespecial, zq_newarray, zq_anewarray, zq_aastore, zi_m1, zi_0, zi_1, zi_2, zi_3, zi_4, zi_5, zi_6, zi_8, zi_16, zb_m10, zb_m4, zb_m3, zb_m2, zb_6, zb_7, zb_8, zb_9, zb_10, zb_16, zb_20, zb_23, zb_30, zb_32, zb_35, zb_46, zb_48, zb_56, zb_57, zb_59, zb_63, zb_70, zb_98, zb_99, zb_100, zb_111, zb_112, zs_192, zs_255, zs_256, zs_511, zs_512, zs_12345, zf_X7_10_0, zf_X7_19_0, zf_X7_26_0, zf_X7_33_0, zf_X7_39_0, zf_X7_43_0, zf_X7_47_0, zf_X7_50_0, zf_X7_53_0, zf_X7_56_0, zf_X7_59_0, zkc_X7_223, zkl_X7_313, zkl_X7_240, zkl_X7_305, za_C_2, za_C_3, za_C_4, za_C_5, za_C_6, za_C_8, za_C_9, za_C_10, za_C_12, za_C_14, za_C_15, za_C_16, za_C_17, za_C_22, za_C_23, za_C_24, za_C_25, dX7_inLowestTerms_0, dX7_inLowestTerms_1, dX7_inLowestTerms_2, dX7_inLowestTerms_5, dX7_inLowestTerms_7, dX7_inLowestTerms_9, dX7_inLowestTerms_12, dX7_inLowestTerms_13, dX7_inLowestTerms_16, dX7_inLowestTerms_17, dX7_inLowestTerms_19, dX7_inLowestTerms_21, dX7_inLowestTerms_22, dX7_inLowestTerms_23, dX7_inLowestTerms_26, dX7_inLowestTerms_28, dX7_inLowestTerms_31, dX7_inLowestTerms_33, dX7_inLowestTerms_35, dX7_inLowestTerms_36, cr_X7_inLowestTerms_315, wr_X7_commonDivisor]
    refine ⟨x, y, rfl, rfl, hx, hy, ?_⟩
    have n0 : ¬ lg_cmp (lN (Nat.gcd x y)) 0 = 0 := by rw [l_0 (by omega)]; omega
    have n1 : ¬ lN (Nat.gcd x y) = 0 := by rw [show (0 : Int64) = lN 0 from rfl, pk_lEQ (a := Nat.gcd x y) (b := 0) (by omega) (by omega)]; omega
    refine ⟨fun c => ⟨fun d => absurd d n0, fun _ => ⟨n1, ?_⟩⟩, fun c => ⟨fun d => absurd d n0, fun _ => ⟨n1, ?_⟩⟩⟩
    · rw [if_pos c] at hk; rw [pk_lDiv (by omega) hg (by omega)]; exact hk
    · rw [if_neg c] at hk; rw [pk_lDiv (by omega) hg (by omega)]; exact hk
  · exact h.elim
theorem ok_X7_inLowestTerms {tl : List ZE} : z_Ok (z_shC tl) yX7_inLowestTerms cX7_inLowestTerms 9 (some .long) ({ frames := 1, cells := 0, slots := 0, locals := 30 } : Room) 0 wp_X7_inLowestTerms := z_Ok_of pu_X7_inLowestTerms z_fX7_ok z_kX7_ok co_X7_inLowestTerms ⟨by decide, by decide⟩ (by decide +kernel)
/-- TRUST -/
abbrev trn (T : ZT) : Nat := ab_pop (tL T)
abbrev trb (T : ZT) : Nat := ab_blk (tx0 T) (tL T)
def trI (T : ZT) : Nat := (16 - tdt T) * (trb T ^ tpb T * (trn T - trb T) ^ tpo T)
def trN (T : ZT) : Nat := if tpo T = 0 then tdt T * trn T ^ tpb T else 0
def q_trust (T : ZT) (w : Int32) : Int64 := if i_in w 2 then (if trn T = 0 ∨ trI T + trN T = 0 then q_no (-3) else lN ((if w = 0 then trI T else trI T + trN T) / Nat.gcd (trI T) (trI T + trN T))) else q_no (-2)
def popN (s : Nat) : Nat → Nat
  | 0 => 0
  | n + 1 => popN s n + (if s.testBit n then 1 else 0)
theorem popN_9 (s : Nat) : ab_pop s = popN s 9 := rfl
theorem blk_pop (x : ZText) (s : Nat) : ∀ n, ab_blkN x s n ≤ popN s n
  | 0 => Nat.le_refl _
  | n + 1 => by
    have := blk_pop x s n
    unfold ab_blkN popN
    by_cases h : s.testBit n = true
    · simp only [h, true_and, if_true]; split <;> omega
    · simp only [h]; simp; omega
theorem tL_mask (T : ZT) : tL T &&& ab_every (tx0 T) = tL T := by
  apply Nat.eq_of_testBit_eq
  intro i
  simp only [tL, Nat.testBit_and]
  cases (ab_every (tx0 T)).testBit i <;> simp
theorem tr_le {T : ZT} {S : ZS} (h : CR T S) : trn T ≤ 9 ∧ trb T ≤ trn T := ⟨(pop_le _ (tL_lt h)).1, blk_pop _ _ 9⟩
theorem p_le {a b n : Nat} (ha : a ≤ b) (hb : b ≤ 9) (hn : n ≤ 9) : a ^ n ≤ 9 ^ n ∧ 9 ^ n ≤ 387420489 := ⟨Nat.pow_le_pow_left (by omega) n, (Nat.pow_le_pow_right (by omega) hn : 9 ^ n ≤ 9 ^ 9)⟩
theorem trI_le {T : ZT} {S : ZS} (h : CR T S) : trb T ^ tpb T * (trn T - trb T) ^ tpo T ≤ 387420489 ∧ trI T ≤ 6198727824 ∧ trN T ≤ 6198727824 := by
  obtain ⟨h1, h2⟩ := tr_le h
  have hp := h.1.2.2.2.2.1
  have hd := h.1.2.2.1.2.2.2
  have e : trb T ^ tpb T * (trn T - trb T) ^ tpo T ≤ 387420489 := calc
    trb T ^ tpb T * (trn T - trb T) ^ tpo T ≤ 9 ^ tpb T * 9 ^ tpo T := Nat.mul_le_mul (p_le h2 h1 (by omega)).1 (p_le (b := 9) (by omega) (by omega) (by omega)).1
    _ = 9 ^ (tpb T + tpo T) := (Nat.pow_add _ _ _).symm
    _ ≤ 387420489 := (p_le (a := 0) (b := 9) (by omega) (by omega) hp).2
  refine ⟨e, ?_, ?_⟩
  · unfold trI
    exact Nat.le_trans (Nat.mul_le_mul (show 16 - tdt T ≤ 16 by omega) e) (by omega)
  · unfold trN
    split
    · have := p_le (n := tpb T) (Nat.le_refl _) h1 (by omega)
      exact Nat.le_trans (Nat.mul_le_mul hd (Nat.le_trans this.1 this.2)) (by omega)
    · omega
def wp_X7_trust (T : ZT) : ZW := fun as S k => match as with
  | [.ref 0, .int w] => CR T S ∧ k (some (.long (q_trust T w))) S
  | _ => False
theorem wr_X7_trust {T : ZT} {w : Int32} {S : ZS} {k : Option Value → ZS → Prop} : (wp_X7_trust T) [.ref 0, .int w] S k = (CR T S ∧ k (some (.long (q_trust T w))) S) := rfl
def cs_X7_trust (T : ZT) : List (Nat × ZC) := [(67, (3, 0, true, wp_X7_within)), (160, (1, 0, true, wp_X7_refused)), (144, (1, 0, false, (wp_X7_left T))), (147, (1, 0, true, wp_J6_bitCount_0f7a4)), (179, (2, 0, false, wp_X0_blanksOf)), (182, (2, 0, true, wp_X7_power)), (186, (3, 0, true, wp_X7_inLowestTerms))]
theorem cr_X7_trust_67 {T : ZT} : (cs_X7_trust T).lookup 67 = some (3, 0, true, wp_X7_within) := rfl
theorem cr_X7_trust_160 {T : ZT} : (cs_X7_trust T).lookup 160 = some (1, 0, true, wp_X7_refused) := rfl
theorem cr_X7_trust_144 {T : ZT} : (cs_X7_trust T).lookup 144 = some (1, 0, false, (wp_X7_left T)) := rfl
theorem cr_X7_trust_147 {T : ZT} : (cs_X7_trust T).lookup 147 = some (1, 0, true, wp_J6_bitCount_0f7a4) := rfl
theorem cr_X7_trust_179 {T : ZT} : (cs_X7_trust T).lookup 179 = some (2, 0, false, wp_X0_blanksOf) := rfl
theorem cr_X7_trust_182 {T : ZT} : (cs_X7_trust T).lookup 182 = some (2, 0, true, wp_X7_power) := rfl
theorem cr_X7_trust_186 {T : ZT} : (cs_X7_trust T).lookup 186 = some (3, 0, true, wp_X7_inLowestTerms) := rfl
set_option maxRecDepth 20000 in
theorem co_X7_trust (T : ZT) {tl : List ZE} : z_csok RX7 ({ frames := 3, cells := 0, slots := 0, locals := 67 } : Room) (z_shC tl) (cs_X7_trust T) := z_cs2 (z_csS ok_X7_within (z_g 210 (by decide +kernel) rfl) (z_g 211 (by decide +kernel) rfl) (z_g 44 (by decide +kernel) rfl) (z_g 212 (by decide +kernel) rfl) rfl rfl (by decide +kernel) ⟨by decide, by decide⟩)
  (z_cs2 (z_csS ok_X7_refused (z_g 454 (by decide +kernel) rfl) (z_g 455 (by decide +kernel) rfl) (z_g 44 (by decide +kernel) rfl) (z_g 456 (by decide +kernel) rfl) rfl rfl (by decide +kernel) ⟨by decide, by decide⟩)
  (z_cs2 (z_csV (ok_X7_left T) (rec_X7_left T) rfl (z_g 419 (by decide +kernel) rfl) (z_g 382 (by decide +kernel) rfl) (z_g 383 (by decide +kernel) rfl) (z_g 384 (by decide +kernel) rfl) (z_g 44 (by decide +kernel) rfl) rfl rfl (by decide +kernel) ⟨by decide, by decide⟩)
  (z_cs2 (z_csS ok_J6_bitCount_0f7a4 (z_g 424 (by decide +kernel) rfl) (z_g 425 (by decide +kernel) rfl) (z_g 52 (by decide +kernel) rfl) (z_g 426 (by decide +kernel) rfl) rfl rfl (by decide +kernel) ⟨by decide, by decide⟩)
  (z_cs2 (z_csV ok_X0_blanksOf rec_X0_blanksOf rfl (z_g 492 (by decide +kernel) rfl) (z_g 493 (by decide +kernel) rfl) (z_g 494 (by decide +kernel) rfl) (z_g 495 (by decide +kernel) rfl) (z_g 46 (by decide +kernel) rfl) rfl rfl (by decide +kernel) ⟨by decide, by decide⟩)
  (z_cs2 (z_csS ok_X7_power (z_g 497 (by decide +kernel) rfl) (z_g 498 (by decide +kernel) rfl) (z_g 44 (by decide +kernel) rfl) (z_g 499 (by decide +kernel) rfl) rfl rfl (by decide +kernel) ⟨by decide, by decide⟩)
  (z_cs2 (z_csS ok_X7_inLowestTerms (z_g 500 (by decide +kernel) rfl) (z_g 501 (by decide +kernel) rfl) (z_g 44 (by decide +kernel) rfl) (z_g 502 (by decide +kernel) rfl) rfl rfl (by decide +kernel) ⟨by decide, by decide⟩)
  (z_cs0)))))))
set_option maxHeartbeats 4000000 in
set_option maxRecDepth 20000 in
theorem pu_X7_trust (T : ZT) {tl : List ZE} : z_Pure cX7_trust 11 (z_shC tl) z_fX7 (cs_X7_trust T) z_kcX7 z_klX7 (some .long) 0 (wp_X7_trust T) := by
  intro as S post h
  unfold wp_X7_trust at h
  split at h
  · rename_i w
    refine ⟨Nat.le_of_ble_eq_true rfl, fun K hK => ?_⟩
    change K 0 0 [some (.ref 0), some (.int w), none, none, none, none, none, none, none, none, none] [] S
    obtain ⟨hC, hk⟩ := h
    obtain ⟨f5, f6, f7, f8, f9, f10⟩ := CR_nums hC
    obtain ⟨h1, h2⟩ := tr_le hC
    obtain ⟨g1, g2, g3⟩ := trI_le hC
    have hp := hC.1.2.2.2.2.1
    have hd := hC.1.2.2.1.2.2.2
    have hpn : trn T ^ tpb T ≤ 387420489 := by
      have := p_le (n := tpb T) (Nat.le_refl _) h1 (by omega)
      omega
    refine hK (z_in []) 100 _ _ _ _ _ (Nat.zero_le _) ?_
    simp (config := { maxSteps := 10000000 }) only [z40, z20, z10, z01, zm0, z0m, ze_s, ze_ok, zt_s, zt_t, zt_f, zl_I, zl_J, zl_R, zl_N, zl_C, zl_K, zl_M, zl_ar0, zl_ar1, zl_ar2, zl_ar3, zl_as0, zl_as1, zl_as2, zl_al, zl_gf, zl_gr, zl_pf, zl_iv, zl_ivn, zlk_n, zlk_c, ztb_n, ztb_c, zin_n, zin_1, zin_c, Int.reduceLT, decide_true, decide_false, Bool.true_and, Bool.and_true, List.length_cons, List.length_nil, Int.reduceSub, Int.reduceEq, Int.natCast_zero, zk_s, z_in_n, z_in_c, z_gt_0, z_gt_s, zst_0, zst_1, zst_s, zsl_0, zsl_1, zsl_s, zc_n, zc_i, zc_l, zc_r, zc_u, zca_n, zca_i, zca_l, zca_r, zca_u, zrt_i, zrt_z, zrt_o, z_cal_0, z_cal_s, true_and, and_true, List.nil_append, List.cons_append, Option.toList_some, Option.toList_none, Nat.reduceAdd, Nat.reduceBEq, Nat.reduceLT, Nat.reduceLeDiff, Nat.reduceSub, Int.reduceAdd, Int.reduceLE, Int.reduceToNat, Int.cast_ofNat_Int, Bool.or_true, Bool.true_or, Bool.or_false, Bool.false_or, Nat.le_refl, Nat.zero_le, or_true, true_or, or_false, false_or, not_true_eq_false, not_false_eq_true, not_false_iff, false_implies, true_implies, eq_self, zo_iconst, zo_bipush, zo_sipush, zo_lconst, zo_ldc, zo_ldc_w, zo_ldc2_w, zo_iload_n, zo_iload, zo_lload_n, zo_lload, zo_aload_n, zo_aload, zo_istore_n, zo_istore, zo_lstore_n, zo_lstore, zo_astore_n, zo_astore, zo_iinc, zo_iadd, zo_isub, zo_imul, zo_iand, zo_ior, zo_ixor, zo_ishl, zo_ishr, zo_iushr, zo_idiv, zo_irem, zo_ladd, zo_lsub, zo_lmul, zo_ldiv, zo_lrem, zo_lcmp, zo_i2l, zo_i2b, zo_i2s, zo_dup, zo_dup2, zo_aconst_null, zo_if_icmp, zo_ifCond, zo_goto, zo_ifnull, zo_ifnonnull, zo_iaload, zo_baload, zo_laload, zo_aaload, zo_iastore, zo_bastore, zo_lastore, zo_arraylength, zo_getfield, zo_putfield, zo_tableswitch, zo_lookupswitch, zo_ireturn, zo_lreturn, zo_areturn, zo_return, zo_invokestatic, zo_invokevirtual, zo_new, zo_invokespecial, zo_newarray, zo_anewarray, zo_aastore, zy_0_1, zy_0_2, zy_0_3, zy_1_1, zy_1_2, zy_2_1, zy_2_2, zy_2_3, zy_3_0, zy_4_3, zy_5_1, zy_5_2, zy_6_5, zy_6_6, zy_6_7, zy_6_8, zy_6_9, zy_6_10, zy_7_2, zy_7_6, zy_7_9, zy_7_10, zy_7_11, zy_7_12, zy_7_14, zy_7_21, zy_7_30, zq_iconst, zq_bipush, zq_sipush, zq_lconst0, zq_lconst1, zq_ldc, zq_ldc_w, zq_ldc2_w, zq_iload0, zq_iload1, zq_iload2, zq_iload3, zq_iload, zq_lload0, zq_lload1, zq_lload2, zq_lload3, zq_lload, zq_aload0, zq_aload1, zq_aload2, zq_aload3, zq_aload, zq_istore0, zq_istore1, zq_istore2, zq_istore3, zq_istore, zq_lstore0, zq_lstore1, zq_lstore2, zq_lstore3, zq_lstore, zq_astore0, zq_astore0N, zq_astore1, zq_astore1N, zq_astore2, zq_astore2N, zq_astore3, zq_astore3N, zq_astore, zq_astoreN, zq_iinc, zq_iadd, zq_isub, zq_imul, zq_iand, zq_ior, zq_ixor, zq_ishl, zq_ishr, zq_iushr, zq_idiv, zq_irem, zq_ladd, zq_lsub, zq_lmul, zq_ldiv, zq_lrem, zq_lcmp, zq_i2l, zq_i2b, zq_i2s, zq_dup_i, zq_dup_r, zq_dup2, zq_null, zq_icmp_eq, zq_if_eq, zq_icmp_ne, zq_if_ne, zq_icmp_lt, zq_if_lt, zq_icmp_ge, zq_if_ge, zq_icmp_gt, zq_if_gt, zq_icmp_le, zq_if_le, zq_goto, zq_ifnull_r, zq_ifnull_n, zq_ifnonnull_r, zq_ifnonnull_n, zq_iaload, zq_baload, zq_laload, zq_aaload, zq_iastore, zq_bastore, zq_lastore, zq_alen, zq_getf, zq_put, zq_tsw, zq_lsw, zq_ireturn, zq_lreturn, zq_areturn, zq_areturnN, zq_return, zq_invokestatic, zq_invokevirtual, zq_new, zq_invokespecial, zq_newarray, zq_anewarray, zq_aastore, zi_m1, zi_0, zi_1, zi_2, zi_3, zi_4, zi_5, zi_6, zi_8, zi_16, zb_m10, zb_m4, zb_m3, zb_m2, zb_6, zb_7, zb_8, zb_9, zb_10, zb_16, zb_20, zb_23, zb_30, zb_32, zb_35, zb_46, zb_48, zb_56, zb_57, zb_59, zb_63, zb_70, zb_98, zb_99, zb_100, zb_111, zb_112, zs_192, zs_255, zs_256, zs_511, zs_512, zs_12345, zf_X7_10_0, zf_X7_19_0, zf_X7_26_0, zf_X7_33_0, zf_X7_39_0, zf_X7_43_0, zf_X7_47_0, zf_X7_50_0, zf_X7_53_0, zf_X7_56_0, zf_X7_59_0, zkc_X7_223, zkl_X7_313, zkl_X7_240, zkl_X7_305, za_C_2, za_C_3, za_C_4, za_C_5, za_C_6, za_C_8, za_C_9, za_C_10, za_C_12, za_C_14, za_C_15, za_C_16, za_C_17, za_C_22, za_C_23, za_C_24, za_C_25, dX7_trust_0, dX7_trust_1, dX7_trust_2, dX7_trust_3, dX7_trust_6, dX7_trust_9, dX7_trust_11, dX7_trust_14, dX7_trust_15, dX7_trust_16, dX7_trust_19, dX7_trust_20, dX7_trust_21, dX7_trust_24, dX7_trust_25, dX7_trust_26, dX7_trust_29, dX7_trust_30, dX7_trust_33, dX7_trust_35, dX7_trust_37, dX7_trust_38, dX7_trust_41, dX7_trust_44, dX7_trust_45, dX7_trust_47, dX7_trust_48, dX7_trust_49, dX7_trust_52, dX7_trust_55, dX7_trust_56, dX7_trust_58, dX7_trust_60, dX7_trust_61, dX7_trust_64, dX7_trust_65, dX7_trust_66, dX7_trust_68, dX7_trust_69, dX7_trust_71, dX7_trust_72, dX7_trust_75, dX7_trust_78, dX7_trust_79, dX7_trust_82, dX7_trust_83, dX7_trust_86, dX7_trust_87, dX7_trust_88, dX7_trust_89, dX7_trust_92, dX7_trust_95, dX7_trust_96, dX7_trust_98, dX7_trust_99, dX7_trust_102, dX7_trust_104, dX7_trust_106, dX7_trust_107, dX7_trust_108, dX7_trust_109, dX7_trust_112, dX7_trust_114, dX7_trust_117, dX7_trust_118, dX7_trust_120, dX7_trust_122, dX7_trust_124, dX7_trust_125, dX7_trust_126, dX7_trust_129, cr_X7_trust_67, cr_X7_trust_160, cr_X7_trust_144, cr_X7_trust_147, cr_X7_trust_179, cr_X7_trust_182, cr_X7_trust_186, wr_X7_within, wr_X7_refused, wr_X7_left, wr_J6_bitCount_0f7a4, wr_X0_blanksOf, wr_X7_power, wr_X7_inLowestTerms]
    have e1 : (0 ≤ w ∧ w ≤ 1) ↔ i_in w 2 := w_in (m := 1) (by decide)
    rw [e1, n_m2, n_m3, f7, f8, f9]
    refine ⟨fun c => ⟨hC, tL T, rfl, tL_lt hC, tx0 T, tL T, rfl, CR_x0 hC, CR_b hC, trb T, tpb T, by rw [tL_mask], rfl, by omega, by omega, trn T - trb T, tpo T, by rw [tL_mask]; exact pk_sub h2, rfl, by omega, by omega, ?_⟩, fun c => ?_⟩
    · have e16 : ((16 : Int32) - nI (tdt T)).toInt64 = lN (16 - tdt T) := by rw [show (16 : Int32) - nI (tdt T) = nI (16 - tdt T) from pk_sub hd, n_l (by omega)]
      have eI : ((16 : Int32) - nI (tdt T)).toInt64 * (lN (trb T ^ tpb T) * lN ((trn T - trb T) ^ tpo T)) = lN (trI T) := by
        rw [e16, lN_mul, lN_mul]; rfl
      have g : q_trust T w = if trn T = 0 ∨ trI T + trN T = 0 then q_no (-3) else lN ((if w = 0 then trI T else trI T + trN T) / Nat.gcd (trI T) (trI T + trN T)) := by unfold q_trust; rw [if_pos c]
      rw [g] at hk
      have fin : ¬ trn T = 0 → ¬ trI T + trN T = 0 → post (some (.long (lN ((if w = 0 then trI T else trI T + trN T) / Nat.gcd (trI T) (trI T + trN T))))) S := by
        intro a b
        rw [if_neg (by rintro (q | q); exact a q; exact b q)] at hk
        exact hk
      have no3 : trn T = 0 ∨ trI T + trN T = 0 → post (some (.long (q_no (-3)))) S := by
        intro a; rw [if_pos a] at hk; exact hk
      simp only [n_geL (n := tpo T) (M := 0) 0 rfl (by omega) (by omega), n_leL (n := tpo T) (M := 0) 0 rfl (by omega) (by omega), n_ltL (n := tpo T) (M := 0) 0 rfl (by omega) (by omega), n_gtL (n := tpo T) (M := 0) 0 rfl (by omega) (by omega), n_eqL (n := tpo T) (M := 0) 0 rfl (by omega) (by omega)]
      refine ⟨fun d => ⟨trn T, tpb T, rfl, rfl, by omega, by omega, ?_⟩, fun d => ?_⟩
      · have eN : trN T = tdt T * trn T ^ tpb T := by unfold trN; rw [if_pos (by omega)]
        have eS : lN (trI T) + (nI (tdt T)).toInt64 * lN (trn T ^ tpb T) = lN (trI T + trN T) := by rw [n_l (by omega), lN_mul, lN_add, eN]
        rw [eI, eS]
        simp only [n_geL (n := trn T) (M := 0) 0 rfl (by omega) (by omega), n_leL (n := trn T) (M := 0) 0 rfl (by omega) (by omega), n_ltL (n := trn T) (M := 0) 0 rfl (by omega) (by omega), n_gtL (n := trn T) (M := 0) 0 rfl (by omega) (by omega), n_eqL (n := trn T) (M := 0) 0 rfl (by omega) (by omega), l_0 (a := trI T + trN T) (by omega)]
        exact ⟨fun a => no3 (Or.inl a), fun a => ⟨fun b => no3 (Or.inr b), fun b => ⟨trI T, trI T + trN T, rfl, rfl, by omega, by omega, by omega, fin a b⟩⟩⟩
      · have eN : trN T = 0 := by unfold trN; rw [if_neg (by omega)]
        rw [eI, Int64.add_zero, show lN (trI T) = lN (trI T + trN T) by rw [eN, Nat.add_zero]]
        simp only [n_geL (n := trn T) (M := 0) 0 rfl (by omega) (by omega), n_leL (n := trn T) (M := 0) 0 rfl (by omega) (by omega), n_ltL (n := trn T) (M := 0) 0 rfl (by omega) (by omega), n_gtL (n := trn T) (M := 0) 0 rfl (by omega) (by omega), n_eqL (n := trn T) (M := 0) 0 rfl (by omega) (by omega), l_0 (a := trI T + trN T) (by omega)]
        exact ⟨fun a => no3 (Or.inl a), fun a => ⟨fun b => no3 (Or.inr b), fun b => ⟨trI T, trI T + trN T, by rw [eN, Nat.add_zero], rfl, by omega, by omega, by omega, fin a b⟩⟩⟩
    · unfold q_trust at hk; rw [if_neg c] at hk; exact hk
  · exact h.elim
theorem ok_X7_trust (T : ZT) {tl : List ZE} : z_Ok (z_shC tl) yX7_trust cX7_trust 11 (some .long) ({ frames := 3, cells := 0, slots := 0, locals := 67 } : Room) 0 (wp_X7_trust T) := z_Ok_of (pu_X7_trust T) z_fX7_ok z_kX7_ok (co_X7_trust T) ⟨by decide, by decide⟩ (by decide +kernel)
theorem rec_X7_trust (T : ZT) {tl : List ZE} : z_rec (z_shC tl) (wp_X7_trust T) 6 := by
  intro as S post h
  unfold wp_X7_trust at h
  split at h
  · exact ⟨_, _, _, rfl, rfl⟩
  · exact h.elim
theorem CR_saiU {T : ZT} {S S' : ZS} {n : Nat} {sd : Nat → Nat × Int32 × Nat} (h : CR T S) (hx : ab_sai n sd) (hb : c_sai n sd S') (hf : c_frS S S') : CR (wSd T (n, sd)) S' := by
  obtain ⟨⟨a1, a2, a3, a4, a5, -, a7⟩, b1, b2, b3, -, b5, b6⟩ := h
  refine ⟨⟨a1, a2, a3, a4, a5, hx, a7⟩, ?_, ?_, ?_, hb, ?_, ?_⟩
  · unfold c_books at *; rw [hf.1 1 (by omega), hf.1 2 (by omega), hf.1 3 (by omega), hf.1 4 (by omega), hf.1 5 (by omega), hf.1 6 (by omega)]; exact b1
  · unfold c_kings at *; rw [hf.1 7 (by omega), hf.1 8 (by omega), hf.1 9 (by omega), hf.1 10 (by omega)]; exact b2
  · unfold c_burnt at *; rw [hf.1 11 (by omega), hf.1 12 (by omega)]; exact b3
  · unfold c_nums at *; rw [hf.1 0 (by omega)]; exact b5
  · intro s hs; have := b6 s hs; unfold c_sheet at *; rw [hf.1 (18 + s) (by omega), hf.1 (22 + s) (by omega)]; exact this
def wp_X7_said (T : ZT) : ZW := fun as S k => match as with
  | [.ref 0, .int w, .int v, .int i] => CR T S ∧ ∀ S', CR (u_said T w v i) S' → k (some (.int (q_said T w v i))) S'
  | _ => False
theorem wr_X7_said {T : ZT} {w : Int32} {v : Int32} {i : Int32} {S : ZS} {k : Option Value → ZS → Prop} : (wp_X7_said T) [.ref 0, .int w, .int v, .int i] S k = (CR T S ∧ ∀ S', CR (u_said T w v i) S' → k (some (.int (q_said T w v i))) S') := rfl
def cs_X7_said : List (Nat × ZC) := [(67, (3, 0, true, wp_X7_within)), (190, (4, 0, false, wp_X5_append))]
theorem cr_X7_said_67 : cs_X7_said.lookup 67 = some (3, 0, true, wp_X7_within) := rfl
theorem cr_X7_said_190 : cs_X7_said.lookup 190 = some (4, 0, false, wp_X5_append) := rfl
set_option maxRecDepth 20000 in
theorem co_X7_said {tl : List ZE} : z_csok RX7 ({ frames := 1, cells := 0, slots := 0, locals := 23 } : Room) (z_shC tl) cs_X7_said := z_cs2 (z_csS ok_X7_within (z_g 210 (by decide +kernel) rfl) (z_g 211 (by decide +kernel) rfl) (z_g 44 (by decide +kernel) rfl) (z_g 212 (by decide +kernel) rfl) rfl rfl (by decide +kernel) ⟨by decide, by decide⟩)
  (z_cs2 (z_csV ok_X5_append rec_X5_append rfl (z_g 510 (by decide +kernel) rfl) (z_g 511 (by decide +kernel) rfl) (z_g 512 (by decide +kernel) rfl) (z_g 513 (by decide +kernel) rfl) (z_g 49 (by decide +kernel) rfl) rfl rfl (by decide +kernel) ⟨by decide, by decide⟩)
  (z_cs0))
set_option maxHeartbeats 4000000 in
set_option maxRecDepth 20000 in
theorem pu_X7_said (T : ZT) {tl : List ZE} : z_Pure cX7_said 5 (z_shC tl) z_fX7 cs_X7_said z_kcX7 z_klX7 (some .int) 0 (wp_X7_said T) := by
  intro as S post h
  unfold wp_X7_said at h
  split at h
  · rename_i w v i
    refine ⟨Nat.le_of_ble_eq_true rfl, fun K hK => ?_⟩
    change K 0 0 [some (.ref 0), some (.int w), some (.int v), some (.int i), none] [] S
    obtain ⟨hC, hk⟩ := h
    obtain ⟨s1, s2⟩ := CR_sai hC
    refine hK (z_in []) 100 _ _ _ _ _ (Nat.zero_le _) ?_
    simp (config := { maxSteps := 10000000 }) only [z40, z20, z10, z01, zm0, z0m, ze_s, ze_ok, zt_s, zt_t, zt_f, zl_I, zl_J, zl_R, zl_N, zl_C, zl_K, zl_M, zl_ar0, zl_ar1, zl_ar2, zl_ar3, zl_as0, zl_as1, zl_as2, zl_al, zl_gf, zl_gr, zl_pf, zl_iv, zl_ivn, zlk_n, zlk_c, ztb_n, ztb_c, zin_n, zin_1, zin_c, Int.reduceLT, decide_true, decide_false, Bool.true_and, Bool.and_true, List.length_cons, List.length_nil, Int.reduceSub, Int.reduceEq, Int.natCast_zero, zk_s, z_in_n, z_in_c, z_gt_0, z_gt_s, zst_0, zst_1, zst_s, zsl_0, zsl_1, zsl_s, zc_n, zc_i, zc_l, zc_r, zc_u, zca_n, zca_i, zca_l, zca_r, zca_u, zrt_i, zrt_z, zrt_o, z_cal_0, z_cal_s, true_and, and_true, List.nil_append, List.cons_append, Option.toList_some, Option.toList_none, Nat.reduceAdd, Nat.reduceBEq, Nat.reduceLT, Nat.reduceLeDiff, Nat.reduceSub, Int.reduceAdd, Int.reduceLE, Int.reduceToNat, Int.cast_ofNat_Int, Bool.or_true, Bool.true_or, Bool.or_false, Bool.false_or, Nat.le_refl, Nat.zero_le, or_true, true_or, or_false, false_or, not_true_eq_false, not_false_eq_true, not_false_iff, false_implies, true_implies, eq_self, zo_iconst, zo_bipush, zo_sipush, zo_lconst, zo_ldc, zo_ldc_w, zo_ldc2_w, zo_iload_n, zo_iload, zo_lload_n, zo_lload, zo_aload_n, zo_aload, zo_istore_n, zo_istore, zo_lstore_n, zo_lstore, zo_astore_n, zo_astore, zo_iinc, zo_iadd, zo_isub, zo_imul, zo_iand, zo_ior, zo_ixor, zo_ishl, zo_ishr, zo_iushr, zo_idiv, zo_irem, zo_ladd, zo_lsub, zo_lmul, zo_ldiv, zo_lrem, zo_lcmp, zo_i2l, zo_i2b, zo_i2s, zo_dup, zo_dup2, zo_aconst_null, zo_if_icmp, zo_ifCond, zo_goto, zo_ifnull, zo_ifnonnull, zo_iaload, zo_baload, zo_laload, zo_aaload, zo_iastore, zo_bastore, zo_lastore, zo_arraylength, zo_getfield, zo_putfield, zo_tableswitch, zo_lookupswitch, zo_ireturn, zo_lreturn, zo_areturn, zo_return, zo_invokestatic, zo_invokevirtual, zo_new, zo_invokespecial, zo_newarray, zo_anewarray, zo_aastore, zy_0_1, zy_0_2, zy_0_3, zy_1_1, zy_1_2, zy_2_1, zy_2_2, zy_2_3, zy_3_0, zy_4_3, zy_5_1, zy_5_2, zy_6_5, zy_6_6, zy_6_7, zy_6_8, zy_6_9, zy_6_10, zy_7_2, zy_7_6, zy_7_9, zy_7_10, zy_7_11, zy_7_12, zy_7_14, zy_7_21, zy_7_30, zq_iconst, zq_bipush, zq_sipush, zq_lconst0, zq_lconst1, zq_ldc, zq_ldc_w, zq_ldc2_w, zq_iload0, zq_iload1, zq_iload2, zq_iload3, zq_iload, zq_lload0, zq_lload1, zq_lload2, zq_lload3, zq_lload, zq_aload0, zq_aload1, zq_aload2, zq_aload3, zq_aload, zq_istore0, zq_istore1, zq_istore2, zq_istore3, zq_istore, zq_lstore0, zq_lstore1, zq_lstore2, zq_lstore3, zq_lstore, zq_astore0, zq_astore0N, zq_astore1, zq_astore1N, zq_astore2, zq_astore2N, zq_astore3, zq_astore3N, zq_astore, zq_astoreN, zq_iinc, zq_iadd, zq_isub, zq_imul, zq_iand, zq_ior, zq_ixor, zq_ishl, zq_ishr, zq_iushr, zq_idiv, zq_irem, zq_ladd, zq_lsub, zq_lmul, zq_ldiv, zq_lrem, zq_lcmp, zq_i2l, zq_i2b, zq_i2s, zq_dup_i, zq_dup_r, zq_dup2, zq_null, zq_icmp_eq, zq_if_eq, zq_icmp_ne, zq_if_ne, zq_icmp_lt, zq_if_lt, zq_icmp_ge, zq_if_ge, zq_icmp_gt, zq_if_gt, zq_icmp_le, zq_if_le, zq_goto, zq_ifnull_r, zq_ifnull_n, zq_ifnonnull_r, zq_ifnonnull_n, zq_iaload, zq_baload, zq_laload, zq_aaload, zq_iastore, zq_bastore, zq_lastore, zq_alen, zq_getf, zq_put, zq_tsw, zq_lsw, zq_ireturn, zq_lreturn, zq_areturn, zq_areturnN, zq_return, zq_invokestatic, zq_invokevirtual, zq_new, zq_invokespecial, zq_newarray, zq_anewarray, zq_aastore, zi_m1, zi_0, zi_1, zi_2, zi_3, zi_4, zi_5, zi_6, zi_8, zi_16, zb_m10, zb_m4, zb_m3, zb_m2, zb_6, zb_7, zb_8, zb_9, zb_10, zb_16, zb_20, zb_23, zb_30, zb_32, zb_35, zb_46, zb_48, zb_56, zb_57, zb_59, zb_63, zb_70, zb_98, zb_99, zb_100, zb_111, zb_112, zs_192, zs_255, zs_256, zs_511, zs_512, zs_12345, zf_X7_10_0, zf_X7_19_0, zf_X7_26_0, zf_X7_33_0, zf_X7_39_0, zf_X7_43_0, zf_X7_47_0, zf_X7_50_0, zf_X7_53_0, zf_X7_56_0, zf_X7_59_0, zkc_X7_223, zkl_X7_313, zkl_X7_240, zkl_X7_305, za_C_2, za_C_3, za_C_4, za_C_5, za_C_6, za_C_8, za_C_9, za_C_10, za_C_12, za_C_14, za_C_15, za_C_16, za_C_17, za_C_22, za_C_23, za_C_24, za_C_25, dX7_said_0, dX7_said_1, dX7_said_28, dX7_said_29, dX7_said_30, dX7_said_32, dX7_said_35, dX7_said_37, dX7_said_40, dX7_said_41, dX7_said_42, dX7_said_43, dX7_said_46, dX7_said_48, dX7_said_51, dX7_said_52, dX7_said_53, dX7_said_55, dX7_said_58, dX7_said_60, dX7_said_63, dX7_said_64, dX7_said_66, dX7_said_68, dX7_said_71, dX7_said_72, dX7_said_73, dX7_said_74, dX7_said_77, dX7_said_80, dX7_said_81, dX7_said_84, dX7_said_85, dX7_said_86, dX7_said_87, dX7_said_90, dX7_said_93, dX7_said_95, cr_X7_said_67, cr_X7_said_190, wr_X7_within, wr_X5_append]
    have e1 : (0 ≤ i ∧ i ≤ 1) ↔ i_in i 2 := w_in (m := 1) (by decide)
    have e9 : (0 ≤ v ∧ v ≤ 9) ↔ i_in v 10 := w_in (m := 9) (by decide)
    have e2 : (0 ≤ v ∧ v ≤ 2) ↔ i_in v 3 := w_in (m := 2) (by decide)
    have e8 : (-1 ≤ v ∧ v ≤ 8) ↔ (-1 ≤ v.toInt ∧ v.toInt ≤ 8) := by rw [i_le, i_le]; simp
    have i2 : w.toInt = 2 ↔ w = 2 := by rw [i_eq]; simp
    have bad : ¬ (((w = 0 ∧ i_in v 10) ∨ (w = 1 ∧ i_in v 3) ∨ (w = 2 ∧ -1 ≤ v.toInt ∧ v.toInt ≤ 8)) ∧ i_in i 2) → post (some (.int (-2))) S := by
      intro q
      have g1 : q_said T w v i = -2 := by unfold q_said; rw [if_neg q]
      have g2 : u_said T w v i = T := by unfold u_said; rw [if_neg (fun z => q z.1)]
      rw [g1, g2] at hk
      exact hk S hC
    have good : ∀ u : Nat, w = nI u → u ≤ 2 → (((w = 0 ∧ i_in v 10) ∨ (w = 1 ∧ i_in v 3) ∨ (w = 2 ∧ -1 ≤ v.toInt ∧ v.toInt ≤ 8)) ∧ i_in i 2) → ∃ n sd u w_1, w = nI u ∧ i = nI w_1 ∧ u ≤ 2 ∧ w_1 ≤ 1 ∧ ab_sai n sd ∧ c_sai n sd S ∧ (n = 8 → post (some (Value.int (-4))) S) ∧ (n < 8 → ∀ (S' : ZS), ab_sai (n + 1) (va_up sd n (u, v, w_1)) → c_sai (n + 1) (va_up sd n (u, v, w_1)) S' → c_frS S S' → post (some (Value.int (nI (n + 1)))) S') := by
      intro u hu hu2 q
      obtain ⟨ei, hi⟩ := i_inI q.2 (by omega)
      have ew : cn w = u := by subst hu; exact n_cl (by omega)
      refine ⟨tns T, tsd T, u, cn i, hu, ei, hu2, by omega, s1, s2, fun c => ?_, fun c S' r1 r2 r3 => ?_⟩
      · have g1 : q_said T w v i = -4 := by unfold q_said; rw [if_pos q, if_pos c]
        have g2 : u_said T w v i = T := by unfold u_said; rw [if_neg (fun z => z.2 c)]
        rw [g1, g2] at hk
        exact hk S hC
      · have g1 : q_said T w v i = nI (tns T + 1) := by unfold q_said; rw [if_pos q, if_neg (by omega)]
        have g2 : u_said T w v i = wSd T (tns T + 1, va_up (tsd T) (tns T) (u, v, cn i)) := by unfold u_said; rw [if_pos ⟨q, by omega⟩, ew]
        rw [g1, g2] at hk
        exact hk S' (CR_saiU hC r1 r2 r3)
    simp only [e1, e9, e2, e8, i0, i1, i2]
    refine ⟨fun c => bad ?_, fun c => ⟨fun a => ⟨fun b => good 0 c (by omega) ⟨Or.inl ⟨c, a⟩, b⟩, fun b => bad (fun q => b q.2)⟩, fun a => bad ?_⟩, fun c => ⟨fun a => ⟨fun b => good 1 c (by omega) ⟨Or.inr (Or.inl ⟨c, a⟩), b⟩, fun b => bad (fun q => b q.2)⟩, fun a => bad ?_⟩, fun c => ⟨fun a => ⟨fun b => good 2 c (by omega) ⟨Or.inr (Or.inr ⟨c, a⟩), b⟩, fun b => bad (fun q => b q.2)⟩, fun a => bad ?_⟩⟩
    · rintro ⟨(⟨q, -⟩ | ⟨q, -⟩ | ⟨q, -⟩), -⟩ <;> subst q <;> simp at c
    · rintro ⟨(⟨q, z⟩ | ⟨q, z⟩ | ⟨q, z⟩), -⟩
      · exact a z
      · subst q; exact absurd c (by decide)
      · subst q; exact absurd c (by decide)
    · rintro ⟨(⟨q, z⟩ | ⟨q, z⟩ | ⟨q, z⟩), -⟩
      · subst q; exact absurd c (by decide)
      · exact a z
      · subst q; exact absurd c (by decide)
    · rintro ⟨(⟨q, z⟩ | ⟨q, z⟩ | ⟨q, z⟩), -⟩
      · subst q; exact absurd c (by decide)
      · subst q; exact absurd c (by decide)
      · exact a z
  · exact h.elim
theorem ok_X7_said (T : ZT) {tl : List ZE} : z_Ok (z_shC tl) yX7_said cX7_said 5 (some .int) ({ frames := 1, cells := 0, slots := 0, locals := 23 } : Room) 0 (wp_X7_said T) := z_Ok_of (pu_X7_said T) z_fX7_ok z_kX7_ok co_X7_said ⟨by decide, by decide⟩ (by decide +kernel)
theorem rec_X7_said (T : ZT) {tl : List ZE} : z_rec (z_shC tl) (wp_X7_said T) 6 := by
  intro as S post h
  unfold wp_X7_said at h
  split at h
  · exact ⟨_, _, _, rfl, rfl⟩
  · exact h.elim
def wp_X7_forget (T : ZT) : ZW := fun as S k => match as with
  | [.ref 0, .int w] => CR T S ∧ ∀ S', CR (u_forget T w) S' → k (some (.int (q_forget T w))) S'
  | _ => False
theorem wr_X7_forget {T : ZT} {w : Int32} {S : ZS} {k : Option Value → ZS → Prop} : (wp_X7_forget T) [.ref 0, .int w] S k = (CR T S ∧ ∀ S', CR (u_forget T w) S' → k (some (.int (q_forget T w))) S') := rfl
def cs_X7_forget : List (Nat × ZC) := [(67, (3, 0, true, wp_X7_within)), (192, (1, 0, false, wp_X5_clear))]
theorem cr_X7_forget_67 : cs_X7_forget.lookup 67 = some (3, 0, true, wp_X7_within) := rfl
theorem cr_X7_forget_192 : cs_X7_forget.lookup 192 = some (1, 0, false, wp_X5_clear) := rfl
set_option maxRecDepth 20000 in
theorem co_X7_forget {tl : List ZE} : z_csok RX7 ({ frames := 1, cells := 0, slots := 0, locals := 22 } : Room) (z_shC tl) cs_X7_forget := z_cs2 (z_csS ok_X7_within (z_g 210 (by decide +kernel) rfl) (z_g 211 (by decide +kernel) rfl) (z_g 44 (by decide +kernel) rfl) (z_g 212 (by decide +kernel) rfl) rfl rfl (by decide +kernel) ⟨by decide, by decide⟩)
  (z_cs2 (z_csV ok_X5_clear rec_X5_clear rfl (z_g 518 (by decide +kernel) rfl) (z_g 519 (by decide +kernel) rfl) (z_g 520 (by decide +kernel) rfl) (z_g 521 (by decide +kernel) rfl) (z_g 49 (by decide +kernel) rfl) rfl rfl (by decide +kernel) ⟨by decide, by decide⟩)
  (z_cs0))
set_option maxHeartbeats 4000000 in
set_option maxRecDepth 20000 in
theorem pu_X7_forget (T : ZT) {tl : List ZE} : z_Pure cX7_forget 3 (z_shC tl) z_fX7 cs_X7_forget z_kcX7 z_klX7 (some .int) 0 (wp_X7_forget T) := by
  intro as S post h
  unfold wp_X7_forget at h
  split at h
  · rename_i w
    refine ⟨Nat.le_of_ble_eq_true rfl, fun K hK => ?_⟩
    change K 0 0 [some (.ref 0), some (.int w), none] [] S
    obtain ⟨hC, hk⟩ := h
    obtain ⟨s1, s2⟩ := CR_sai hC
    obtain ⟨f5, f6, f7, f8, f9, f10⟩ := CR_nums hC
    refine hK (z_in []) 100 _ _ _ _ _ (Nat.zero_le _) ?_
    simp (config := { maxSteps := 10000000 }) only [z40, z20, z10, z01, zm0, z0m, ze_s, ze_ok, zt_s, zt_t, zt_f, zl_I, zl_J, zl_R, zl_N, zl_C, zl_K, zl_M, zl_ar0, zl_ar1, zl_ar2, zl_ar3, zl_as0, zl_as1, zl_as2, zl_al, zl_gf, zl_gr, zl_pf, zl_iv, zl_ivn, zlk_n, zlk_c, ztb_n, ztb_c, zin_n, zin_1, zin_c, Int.reduceLT, decide_true, decide_false, Bool.true_and, Bool.and_true, List.length_cons, List.length_nil, Int.reduceSub, Int.reduceEq, Int.natCast_zero, zk_s, z_in_n, z_in_c, z_gt_0, z_gt_s, zst_0, zst_1, zst_s, zsl_0, zsl_1, zsl_s, zc_n, zc_i, zc_l, zc_r, zc_u, zca_n, zca_i, zca_l, zca_r, zca_u, zrt_i, zrt_z, zrt_o, z_cal_0, z_cal_s, true_and, and_true, List.nil_append, List.cons_append, Option.toList_some, Option.toList_none, Nat.reduceAdd, Nat.reduceBEq, Nat.reduceLT, Nat.reduceLeDiff, Nat.reduceSub, Int.reduceAdd, Int.reduceLE, Int.reduceToNat, Int.cast_ofNat_Int, Bool.or_true, Bool.true_or, Bool.or_false, Bool.false_or, Nat.le_refl, Nat.zero_le, or_true, true_or, or_false, false_or, not_true_eq_false, not_false_eq_true, not_false_iff, false_implies, true_implies, eq_self, zo_iconst, zo_bipush, zo_sipush, zo_lconst, zo_ldc, zo_ldc_w, zo_ldc2_w, zo_iload_n, zo_iload, zo_lload_n, zo_lload, zo_aload_n, zo_aload, zo_istore_n, zo_istore, zo_lstore_n, zo_lstore, zo_astore_n, zo_astore, zo_iinc, zo_iadd, zo_isub, zo_imul, zo_iand, zo_ior, zo_ixor, zo_ishl, zo_ishr, zo_iushr, zo_idiv, zo_irem, zo_ladd, zo_lsub, zo_lmul, zo_ldiv, zo_lrem, zo_lcmp, zo_i2l, zo_i2b, zo_i2s, zo_dup, zo_dup2, zo_aconst_null, zo_if_icmp, zo_ifCond, zo_goto, zo_ifnull, zo_ifnonnull, zo_iaload, zo_baload, zo_laload, zo_aaload, zo_iastore, zo_bastore, zo_lastore, zo_arraylength, zo_getfield, zo_putfield, zo_tableswitch, zo_lookupswitch, zo_ireturn, zo_lreturn, zo_areturn, zo_return, zo_invokestatic, zo_invokevirtual, zo_new, zo_invokespecial, zo_newarray, zo_anewarray, zo_aastore, zy_0_1, zy_0_2, zy_0_3, zy_1_1, zy_1_2, zy_2_1, zy_2_2, zy_2_3, zy_3_0, zy_4_3, zy_5_1, zy_5_2, zy_6_5, zy_6_6, zy_6_7, zy_6_8, zy_6_9, zy_6_10, zy_7_2, zy_7_6, zy_7_9, zy_7_10, zy_7_11, zy_7_12, zy_7_14, zy_7_21, zy_7_30, zq_iconst, zq_bipush, zq_sipush, zq_lconst0, zq_lconst1, zq_ldc, zq_ldc_w, zq_ldc2_w, zq_iload0, zq_iload1, zq_iload2, zq_iload3, zq_iload, zq_lload0, zq_lload1, zq_lload2, zq_lload3, zq_lload, zq_aload0, zq_aload1, zq_aload2, zq_aload3, zq_aload, zq_istore0, zq_istore1, zq_istore2, zq_istore3, zq_istore, zq_lstore0, zq_lstore1, zq_lstore2, zq_lstore3, zq_lstore, zq_astore0, zq_astore0N, zq_astore1, zq_astore1N, zq_astore2, zq_astore2N, zq_astore3, zq_astore3N, zq_astore, zq_astoreN, zq_iinc, zq_iadd, zq_isub, zq_imul, zq_iand, zq_ior, zq_ixor, zq_ishl, zq_ishr, zq_iushr, zq_idiv, zq_irem, zq_ladd, zq_lsub, zq_lmul, zq_ldiv, zq_lrem, zq_lcmp, zq_i2l, zq_i2b, zq_i2s, zq_dup_i, zq_dup_r, zq_dup2, zq_null, zq_icmp_eq, zq_if_eq, zq_icmp_ne, zq_if_ne, zq_icmp_lt, zq_if_lt, zq_icmp_ge, zq_if_ge, zq_icmp_gt, zq_if_gt, zq_icmp_le, zq_if_le, zq_goto, zq_ifnull_r, zq_ifnull_n, zq_ifnonnull_r, zq_ifnonnull_n, zq_iaload, zq_baload, zq_laload, zq_aaload, zq_iastore, zq_bastore, zq_lastore, zq_alen, zq_getf, zq_put, zq_tsw, zq_lsw, zq_ireturn, zq_lreturn, zq_areturn, zq_areturnN, zq_return, zq_invokestatic, zq_invokevirtual, zq_new, zq_invokespecial, zq_newarray, zq_anewarray, zq_aastore, zi_m1, zi_0, zi_1, zi_2, zi_3, zi_4, zi_5, zi_6, zi_8, zi_16, zb_m10, zb_m4, zb_m3, zb_m2, zb_6, zb_7, zb_8, zb_9, zb_10, zb_16, zb_20, zb_23, zb_30, zb_32, zb_35, zb_46, zb_48, zb_56, zb_57, zb_59, zb_63, zb_70, zb_98, zb_99, zb_100, zb_111, zb_112, zs_192, zs_255, zs_256, zs_511, zs_512, zs_12345, zf_X7_10_0, zf_X7_19_0, zf_X7_26_0, zf_X7_33_0, zf_X7_39_0, zf_X7_43_0, zf_X7_47_0, zf_X7_50_0, zf_X7_53_0, zf_X7_56_0, zf_X7_59_0, zkc_X7_223, zkl_X7_313, zkl_X7_240, zkl_X7_305, za_C_2, za_C_3, za_C_4, za_C_5, za_C_6, za_C_8, za_C_9, za_C_10, za_C_12, za_C_14, za_C_15, za_C_16, za_C_17, za_C_22, za_C_23, za_C_24, za_C_25, dX7_forget_0, dX7_forget_1, dX7_forget_2, dX7_forget_3, dX7_forget_6, dX7_forget_9, dX7_forget_11, dX7_forget_12, dX7_forget_13, dX7_forget_14, dX7_forget_17, dX7_forget_18, dX7_forget_21, dX7_forget_24, dX7_forget_25, dX7_forget_26, dX7_forget_29, dX7_forget_30, dX7_forget_33, dX7_forget_34, dX7_forget_35, dX7_forget_36, dX7_forget_37, dX7_forget_40, dX7_forget_41, dX7_forget_42, dX7_forget_45, dX7_forget_46, cr_X7_forget_67, cr_X7_forget_192, wr_X7_within, wr_X5_clear]
    have e1 : (0 ≤ w ∧ w ≤ 1) ↔ i_in w 2 := w_in (m := 1) (by decide)
    rw [e1, s2.1, f8, f9, nI_add]
    have c2 : ¬ i_in w 2 → ¬ w = 0 ∧ ¬ w = 1 := fun q => ⟨by rintro rfl; exact q (by decide), by rintro rfl; exact q (by decide)⟩
    refine ⟨fun c => ⟨fun d => ?_, fun d => ?_⟩, fun c => ?_⟩
    · subst d
      refine hk _ (CR_saiU hC ⟨Nat.zero_le _, fun i hi => absurd hi (Nat.not_lt_zero _)⟩ ⟨?_, fun i hi => absurd hi (Nat.not_lt_zero _)⟩ ⟨fun a ha => ?_, rfl⟩)
      · simp only [z_rd, and_self, if_true]; rfl
      · dsimp only; rw [z_u_o (by omega)]
    · have d0 : w = 0 := by
        obtain ⟨ew, hw⟩ := i_inI c (by omega)
        have : cn w = 0 ∨ cn w = 1 := by omega
        rcases this with h | h
        · rw [ew, h]; rfl
        · rw [ew, h] at d; exact absurd rfl d
      subst d0
      obtain ⟨a1, a2, a3, a4, a5, a6⟩ := hC.1
      refine hk _ (CR_num (T' := wPg T (0, 0)) hC ⟨a1, a2, a3, a4, Nat.zero_le _, a6⟩ rfl rfl rfl rfl ?_ (fun x hx => by dsimp only; rw [z_u_o hx, z_u_o hx]))
      refine ⟨?_, ?_, ?_, ?_, ?_, ?_⟩ <;> simp only [z_rd, true_and, if_true, Nat.reduceEqDiff, if_false, and_true, and_false] <;> first | assumption | rfl
    · have g1 : q_forget T w = -2 := by unfold q_forget; rw [if_neg (c2 c).1, if_neg (c2 c).2]
      have g2 : u_forget T w = T := by unfold u_forget; rw [if_neg (c2 c).1, if_neg (c2 c).2]
      rw [g1, g2] at hk
      exact hk S hC
  · exact h.elim
theorem ok_X7_forget (T : ZT) {tl : List ZE} : z_Ok (z_shC tl) yX7_forget cX7_forget 3 (some .int) ({ frames := 1, cells := 0, slots := 0, locals := 22 } : Room) 0 (wp_X7_forget T) := z_Ok_of (pu_X7_forget T) z_fX7_ok z_kX7_ok co_X7_forget ⟨by decide, by decide⟩ (by decide +kernel)
theorem rec_X7_forget (T : ZT) {tl : List ZE} : z_rec (z_shC tl) (wp_X7_forget T) 6 := by
  intro as S post h
  unfold wp_X7_forget at h
  split at h
  · exact ⟨_, _, _, rfl, rfl⟩
  · exact h.elim
theorem q_foN_lt (T : ZT) : ∀ n, n ≤ 9 → q_foN T n < 512 := by
  intro n
  induction n with
  | zero => intro _; exact (by decide : (0 : Nat) < 512)
  | succ n ih =>
    intro hn
    unfold q_foN
    split
    · exact (bt_or _ (ih (by omega)) n (by omega)).2
    · exact ih (by omega)
def wp_X7_fourth (T : ZT) : ZW := fun as S k => match as with
  | [.ref 0] => CR T S ∧ k (some (.int (q_fourth T))) S
  | _ => False
theorem wr_X7_fourth {T : ZT} {S : ZS} {k : Option Value → ZS → Prop} : (wp_X7_fourth T) [.ref 0] S k = (CR T S ∧ k (some (.int (q_fourth T))) S) := rfl
def cs_X7_fourth : List (Nat × ZC) := [(87, (1, 0, false, wp_X2_number_B)), (131, (1, 0, false, wp_X1_bits)), (152, (2, 0, true, wp_X7_holds)), (193, (3, 0, false, wp_X5_allow))]
theorem cr_X7_fourth_87 : cs_X7_fourth.lookup 87 = some (1, 0, false, wp_X2_number_B) := rfl
theorem cr_X7_fourth_131 : cs_X7_fourth.lookup 131 = some (1, 0, false, wp_X1_bits) := rfl
theorem cr_X7_fourth_152 : cs_X7_fourth.lookup 152 = some (2, 0, true, wp_X7_holds) := rfl
theorem cr_X7_fourth_193 : cs_X7_fourth.lookup 193 = some (3, 0, false, wp_X5_allow) := rfl
set_option maxRecDepth 20000 in
theorem co_X7_fourth {tl : List ZE} : z_csok RX7 ({ frames := 4, cells := 0, slots := 0, locals := 90 } : Room) (z_shC tl) cs_X7_fourth := z_cs2 (z_csU (owner := "NineBooks$Entries") (x := ⟨"NineBooks$Books", "number", "()I"⟩) ok_X2_number_B rec_X2_number_B rfl (Or.inl (z_gn 293 (by decide +kernel) rfl)) (z_g 291 (by decide +kernel) rfl) (z_g 295 (by decide +kernel) rfl) (z_g 294 (by decide +kernel) rfl) (z_g 296 (by decide +kernel) rfl) (z_g 45 (by decide +kernel) rfl) (z_g 292 (by decide +kernel) rfl) rfl rfl (by decide +kernel) ⟨by decide, by decide⟩)
  (z_cs2 (z_csV ok_X1_bits rec_X1_bits rfl (z_g 391 (by decide +kernel) rfl) (z_g 392 (by decide +kernel) rfl) (z_g 393 (by decide +kernel) rfl) (z_g 394 (by decide +kernel) rfl) (z_g 48 (by decide +kernel) rfl) rfl rfl (by decide +kernel) ⟨by decide, by decide⟩)
  (z_cs2 (z_csS ok_X7_holds (z_g 434 (by decide +kernel) rfl) (z_g 342 (by decide +kernel) rfl) (z_g 44 (by decide +kernel) rfl) (z_g 343 (by decide +kernel) rfl) rfl rfl (by decide +kernel) ⟨by decide, by decide⟩)
  (z_cs2 (z_csV ok_X5_allow rec_X5_allow rfl (z_g 526 (by decide +kernel) rfl) (z_g 527 (by decide +kernel) rfl) (z_g 528 (by decide +kernel) rfl) (z_g 529 (by decide +kernel) rfl) (z_g 49 (by decide +kernel) rfl) rfl rfl (by decide +kernel) ⟨by decide, by decide⟩)
  (z_cs0))))
set_option maxHeartbeats 4000000 in
set_option maxRecDepth 20000 in
theorem pu_X7_fourth (T : ZT) {tl : List ZE} : z_Pure cX7_fourth 3 (z_shC tl) z_fX7 cs_X7_fourth z_kcX7 z_klX7 (some .int) 0 (wp_X7_fourth T) := by
  intro as S post h
  unfold wp_X7_fourth at h
  split at h
  · skip
    refine ⟨Nat.le_of_ble_eq_true rfl, fun K hK => ?_⟩
    change K 0 0 [some (.ref 0), none, none] [] S
    obtain ⟨hC, hk⟩ := h
    obtain ⟨s1, s2⟩ := CR_sai hC
    have hN := CR_N hC
    have hN' : ab_num 0 (tx0 T) ≤ 9 := hN
    have hB := CR_B hC
    have key : ∀ (m i : Nat), i + m = tN T → K 0 4 [some (.ref 0), some (.int (nI (q_foN T i))), some (.int (nI i))] [] S := by
      intro m
      induction m with
      | zero =>
        intro i hi
        refine hK (z_in [4]) 60 _ _ _ _ _ (Nat.zero_le _) ?_
        simp (config := { maxSteps := 10000000 }) only [z40, z20, z10, z01, zm0, z0m, ze_s, ze_ok, zt_s, zt_t, zt_f, zl_I, zl_J, zl_R, zl_N, zl_C, zl_K, zl_M, zl_ar0, zl_ar1, zl_ar2, zl_ar3, zl_as0, zl_as1, zl_as2, zl_al, zl_gf, zl_gr, zl_pf, zl_iv, zl_ivn, zlk_n, zlk_c, ztb_n, ztb_c, zin_n, zin_1, zin_c, Int.reduceLT, decide_true, decide_false, Bool.true_and, Bool.and_true, List.length_cons, List.length_nil, Int.reduceSub, Int.reduceEq, Int.natCast_zero, zk_s, z_in_n, z_in_c, z_gt_0, z_gt_s, zst_0, zst_1, zst_s, zsl_0, zsl_1, zsl_s, zc_n, zc_i, zc_l, zc_r, zc_u, zca_n, zca_i, zca_l, zca_r, zca_u, zrt_i, zrt_z, zrt_o, z_cal_0, z_cal_s, true_and, and_true, List.nil_append, List.cons_append, Option.toList_some, Option.toList_none, Nat.reduceAdd, Nat.reduceBEq, Nat.reduceLT, Nat.reduceLeDiff, Nat.reduceSub, Int.reduceAdd, Int.reduceLE, Int.reduceToNat, Int.cast_ofNat_Int, Bool.or_true, Bool.true_or, Bool.or_false, Bool.false_or, Nat.le_refl, Nat.zero_le, or_true, true_or, or_false, false_or, not_true_eq_false, not_false_eq_true, not_false_iff, false_implies, true_implies, eq_self, zo_iconst, zo_bipush, zo_sipush, zo_lconst, zo_ldc, zo_ldc_w, zo_ldc2_w, zo_iload_n, zo_iload, zo_lload_n, zo_lload, zo_aload_n, zo_aload, zo_istore_n, zo_istore, zo_lstore_n, zo_lstore, zo_astore_n, zo_astore, zo_iinc, zo_iadd, zo_isub, zo_imul, zo_iand, zo_ior, zo_ixor, zo_ishl, zo_ishr, zo_iushr, zo_idiv, zo_irem, zo_ladd, zo_lsub, zo_lmul, zo_ldiv, zo_lrem, zo_lcmp, zo_i2l, zo_i2b, zo_i2s, zo_dup, zo_dup2, zo_aconst_null, zo_if_icmp, zo_ifCond, zo_goto, zo_ifnull, zo_ifnonnull, zo_iaload, zo_baload, zo_laload, zo_aaload, zo_iastore, zo_bastore, zo_lastore, zo_arraylength, zo_getfield, zo_putfield, zo_tableswitch, zo_lookupswitch, zo_ireturn, zo_lreturn, zo_areturn, zo_return, zo_invokestatic, zo_invokevirtual, zo_new, zo_invokespecial, zo_newarray, zo_anewarray, zo_aastore, zy_0_1, zy_0_2, zy_0_3, zy_1_1, zy_1_2, zy_2_1, zy_2_2, zy_2_3, zy_3_0, zy_4_3, zy_5_1, zy_5_2, zy_6_5, zy_6_6, zy_6_7, zy_6_8, zy_6_9, zy_6_10, zy_7_2, zy_7_6, zy_7_9, zy_7_10, zy_7_11, zy_7_12, zy_7_14, zy_7_21, zy_7_30, zq_iconst, zq_bipush, zq_sipush, zq_lconst0, zq_lconst1, zq_ldc, zq_ldc_w, zq_ldc2_w, zq_iload0, zq_iload1, zq_iload2, zq_iload3, zq_iload, zq_lload0, zq_lload1, zq_lload2, zq_lload3, zq_lload, zq_aload0, zq_aload1, zq_aload2, zq_aload3, zq_aload, zq_istore0, zq_istore1, zq_istore2, zq_istore3, zq_istore, zq_lstore0, zq_lstore1, zq_lstore2, zq_lstore3, zq_lstore, zq_astore0, zq_astore0N, zq_astore1, zq_astore1N, zq_astore2, zq_astore2N, zq_astore3, zq_astore3N, zq_astore, zq_astoreN, zq_iinc, zq_iadd, zq_isub, zq_imul, zq_iand, zq_ior, zq_ixor, zq_ishl, zq_ishr, zq_iushr, zq_idiv, zq_irem, zq_ladd, zq_lsub, zq_lmul, zq_ldiv, zq_lrem, zq_lcmp, zq_i2l, zq_i2b, zq_i2s, zq_dup_i, zq_dup_r, zq_dup2, zq_null, zq_icmp_eq, zq_if_eq, zq_icmp_ne, zq_if_ne, zq_icmp_lt, zq_if_lt, zq_icmp_ge, zq_if_ge, zq_icmp_gt, zq_if_gt, zq_icmp_le, zq_if_le, zq_goto, zq_ifnull_r, zq_ifnull_n, zq_ifnonnull_r, zq_ifnonnull_n, zq_iaload, zq_baload, zq_laload, zq_aaload, zq_iastore, zq_bastore, zq_lastore, zq_alen, zq_getf, zq_put, zq_tsw, zq_lsw, zq_ireturn, zq_lreturn, zq_areturn, zq_areturnN, zq_return, zq_invokestatic, zq_invokevirtual, zq_new, zq_invokespecial, zq_newarray, zq_anewarray, zq_aastore, zi_m1, zi_0, zi_1, zi_2, zi_3, zi_4, zi_5, zi_6, zi_8, zi_16, zb_m10, zb_m4, zb_m3, zb_m2, zb_6, zb_7, zb_8, zb_9, zb_10, zb_16, zb_20, zb_23, zb_30, zb_32, zb_35, zb_46, zb_48, zb_56, zb_57, zb_59, zb_63, zb_70, zb_98, zb_99, zb_100, zb_111, zb_112, zs_192, zs_255, zs_256, zs_511, zs_512, zs_12345, zf_X7_10_0, zf_X7_19_0, zf_X7_26_0, zf_X7_33_0, zf_X7_39_0, zf_X7_43_0, zf_X7_47_0, zf_X7_50_0, zf_X7_53_0, zf_X7_56_0, zf_X7_59_0, zkc_X7_223, zkl_X7_313, zkl_X7_240, zkl_X7_305, za_C_2, za_C_3, za_C_4, za_C_5, za_C_6, za_C_8, za_C_9, za_C_10, za_C_12, za_C_14, za_C_15, za_C_16, za_C_17, za_C_22, za_C_23, za_C_24, za_C_25, dX7_fourth_0, dX7_fourth_1, dX7_fourth_2, dX7_fourth_3, dX7_fourth_4, dX7_fourth_5, dX7_fourth_6, dX7_fourth_9, dX7_fourth_12, dX7_fourth_15, dX7_fourth_16, dX7_fourth_19, dX7_fourth_22, dX7_fourth_23, dX7_fourth_26, dX7_fourth_29, dX7_fourth_30, dX7_fourth_33, dX7_fourth_34, dX7_fourth_37, dX7_fourth_38, dX7_fourth_41, dX7_fourth_44, dX7_fourth_45, dX7_fourth_46, dX7_fourth_47, dX7_fourth_48, dX7_fourth_49, dX7_fourth_50, dX7_fourth_53, dX7_fourth_56, dX7_fourth_57, cr_X7_fourth_87, cr_X7_fourth_131, cr_X7_fourth_152, cr_X7_fourth_193, wr_X2_number_B, wr_X1_bits, wr_X7_holds, wr_X5_allow]
        obtain rfl : i = tN T := by omega
        rw [(CR_b hC).2.2.2.1]
        exact ⟨fun _ => hk, fun c => absurd (by rw [n_le (by omega) (by omega)]; exact Nat.le_refl _) c⟩
      | succ m ih =>
        intro i hi
        have hf := q_foN_lt T i (by omega)
        have hi' : i + (m + 1) = ab_num 0 (tx0 T) := hi
        refine hK (z_in [4]) 60 _ _ _ _ _ (Nat.zero_le _) ?_
        simp (config := { maxSteps := 10000000 }) only [z40, z20, z10, z01, zm0, z0m, ze_s, ze_ok, zt_s, zt_t, zt_f, zl_I, zl_J, zl_R, zl_N, zl_C, zl_K, zl_M, zl_ar0, zl_ar1, zl_ar2, zl_ar3, zl_as0, zl_as1, zl_as2, zl_al, zl_gf, zl_gr, zl_pf, zl_iv, zl_ivn, zlk_n, zlk_c, ztb_n, ztb_c, zin_n, zin_1, zin_c, Int.reduceLT, decide_true, decide_false, Bool.true_and, Bool.and_true, List.length_cons, List.length_nil, Int.reduceSub, Int.reduceEq, Int.natCast_zero, zk_s, z_in_n, z_in_c, z_gt_0, z_gt_s, zst_0, zst_1, zst_s, zsl_0, zsl_1, zsl_s, zc_n, zc_i, zc_l, zc_r, zc_u, zca_n, zca_i, zca_l, zca_r, zca_u, zrt_i, zrt_z, zrt_o, z_cal_0, z_cal_s, true_and, and_true, List.nil_append, List.cons_append, Option.toList_some, Option.toList_none, Nat.reduceAdd, Nat.reduceBEq, Nat.reduceLT, Nat.reduceLeDiff, Nat.reduceSub, Int.reduceAdd, Int.reduceLE, Int.reduceToNat, Int.cast_ofNat_Int, Bool.or_true, Bool.true_or, Bool.or_false, Bool.false_or, Nat.le_refl, Nat.zero_le, or_true, true_or, or_false, false_or, not_true_eq_false, not_false_eq_true, not_false_iff, false_implies, true_implies, eq_self, zo_iconst, zo_bipush, zo_sipush, zo_lconst, zo_ldc, zo_ldc_w, zo_ldc2_w, zo_iload_n, zo_iload, zo_lload_n, zo_lload, zo_aload_n, zo_aload, zo_istore_n, zo_istore, zo_lstore_n, zo_lstore, zo_astore_n, zo_astore, zo_iinc, zo_iadd, zo_isub, zo_imul, zo_iand, zo_ior, zo_ixor, zo_ishl, zo_ishr, zo_iushr, zo_idiv, zo_irem, zo_ladd, zo_lsub, zo_lmul, zo_ldiv, zo_lrem, zo_lcmp, zo_i2l, zo_i2b, zo_i2s, zo_dup, zo_dup2, zo_aconst_null, zo_if_icmp, zo_ifCond, zo_goto, zo_ifnull, zo_ifnonnull, zo_iaload, zo_baload, zo_laload, zo_aaload, zo_iastore, zo_bastore, zo_lastore, zo_arraylength, zo_getfield, zo_putfield, zo_tableswitch, zo_lookupswitch, zo_ireturn, zo_lreturn, zo_areturn, zo_return, zo_invokestatic, zo_invokevirtual, zo_new, zo_invokespecial, zo_newarray, zo_anewarray, zo_aastore, zy_0_1, zy_0_2, zy_0_3, zy_1_1, zy_1_2, zy_2_1, zy_2_2, zy_2_3, zy_3_0, zy_4_3, zy_5_1, zy_5_2, zy_6_5, zy_6_6, zy_6_7, zy_6_8, zy_6_9, zy_6_10, zy_7_2, zy_7_6, zy_7_9, zy_7_10, zy_7_11, zy_7_12, zy_7_14, zy_7_21, zy_7_30, zq_iconst, zq_bipush, zq_sipush, zq_lconst0, zq_lconst1, zq_ldc, zq_ldc_w, zq_ldc2_w, zq_iload0, zq_iload1, zq_iload2, zq_iload3, zq_iload, zq_lload0, zq_lload1, zq_lload2, zq_lload3, zq_lload, zq_aload0, zq_aload1, zq_aload2, zq_aload3, zq_aload, zq_istore0, zq_istore1, zq_istore2, zq_istore3, zq_istore, zq_lstore0, zq_lstore1, zq_lstore2, zq_lstore3, zq_lstore, zq_astore0, zq_astore0N, zq_astore1, zq_astore1N, zq_astore2, zq_astore2N, zq_astore3, zq_astore3N, zq_astore, zq_astoreN, zq_iinc, zq_iadd, zq_isub, zq_imul, zq_iand, zq_ior, zq_ixor, zq_ishl, zq_ishr, zq_iushr, zq_idiv, zq_irem, zq_ladd, zq_lsub, zq_lmul, zq_ldiv, zq_lrem, zq_lcmp, zq_i2l, zq_i2b, zq_i2s, zq_dup_i, zq_dup_r, zq_dup2, zq_null, zq_icmp_eq, zq_if_eq, zq_icmp_ne, zq_if_ne, zq_icmp_lt, zq_if_lt, zq_icmp_ge, zq_if_ge, zq_icmp_gt, zq_if_gt, zq_icmp_le, zq_if_le, zq_goto, zq_ifnull_r, zq_ifnull_n, zq_ifnonnull_r, zq_ifnonnull_n, zq_iaload, zq_baload, zq_laload, zq_aaload, zq_iastore, zq_bastore, zq_lastore, zq_alen, zq_getf, zq_put, zq_tsw, zq_lsw, zq_ireturn, zq_lreturn, zq_areturn, zq_areturnN, zq_return, zq_invokestatic, zq_invokevirtual, zq_new, zq_invokespecial, zq_newarray, zq_anewarray, zq_aastore, zi_m1, zi_0, zi_1, zi_2, zi_3, zi_4, zi_5, zi_6, zi_8, zi_16, zb_m10, zb_m4, zb_m3, zb_m2, zb_6, zb_7, zb_8, zb_9, zb_10, zb_16, zb_20, zb_23, zb_30, zb_32, zb_35, zb_46, zb_48, zb_56, zb_57, zb_59, zb_63, zb_70, zb_98, zb_99, zb_100, zb_111, zb_112, zs_192, zs_255, zs_256, zs_511, zs_512, zs_12345, zf_X7_10_0, zf_X7_19_0, zf_X7_26_0, zf_X7_33_0, zf_X7_39_0, zf_X7_43_0, zf_X7_47_0, zf_X7_50_0, zf_X7_53_0, zf_X7_56_0, zf_X7_59_0, zkc_X7_223, zkl_X7_313, zkl_X7_240, zkl_X7_305, za_C_2, za_C_3, za_C_4, za_C_5, za_C_6, za_C_8, za_C_9, za_C_10, za_C_12, za_C_14, za_C_15, za_C_16, za_C_17, za_C_22, za_C_23, za_C_24, za_C_25, dX7_fourth_0, dX7_fourth_1, dX7_fourth_2, dX7_fourth_3, dX7_fourth_4, dX7_fourth_5, dX7_fourth_6, dX7_fourth_9, dX7_fourth_12, dX7_fourth_15, dX7_fourth_16, dX7_fourth_19, dX7_fourth_22, dX7_fourth_23, dX7_fourth_26, dX7_fourth_29, dX7_fourth_30, dX7_fourth_33, dX7_fourth_34, dX7_fourth_37, dX7_fourth_38, dX7_fourth_41, dX7_fourth_44, dX7_fourth_45, dX7_fourth_46, dX7_fourth_47, dX7_fourth_48, dX7_fourth_49, dX7_fourth_50, dX7_fourth_53, dX7_fourth_56, dX7_fourth_57, cr_X7_fourth_87, cr_X7_fourth_131, cr_X7_fourth_152, cr_X7_fourth_193, wr_X2_number_B, wr_X1_bits, wr_X7_holds, wr_X5_allow]
        rw [(CR_b hC).2.2.2.1, (CR_brn hC).2.2.1, bt_is _ hB i (by omega), n_le (by omega) (by omega)]
        have nx := ih (i + 1) (by omega)
        unfold q_foN at nx
        have nN : ¬ ((tB T).testBit i = true ∧ ab_allN (tx0 T) i (tsd T) (tns T) = true) → K 0 4 [some (.ref 0), some (.int (nI (q_foN T i))), some (.int (nI i + 1))] [] S := by
          intro q; rw [if_neg q] at nx; rw [nI_1]; exact nx
        refine ⟨fun c => absurd c (by omega), fun _ => ⟨fun c => ⟨tx0 T, i, tns T, tsd T, rfl, CR_x0 hC, by unfold tN at hi; omega, CR_b hC, s1, s2, fun d => ?_, fun d => nN (fun q => by rw [d] at q; exact absurd q.2 (by decide))⟩, fun c => nN (fun q => c ⟨⟨?_, ?_⟩, q.1⟩)⟩⟩
        · rw [if_pos ⟨c.2, d⟩] at nx
          rw [(bt_or _ hf i (by omega)).1, nI_1]
          exact nx
        · rw [show (0 : Int32) = nI 0 from rfl, n_le (by omega) (by omega)]; omega
        · rw [show (8 : Int32) = nI 8 from rfl, n_le (by omega) (by omega)]; omega
    refine hK (z_in [4]) 60 _ _ _ _ _ (Nat.zero_le _) ?_
    simp (config := { maxSteps := 10000000 }) only [z40, z20, z10, z01, zm0, z0m, ze_s, ze_ok, zt_s, zt_t, zt_f, zl_I, zl_J, zl_R, zl_N, zl_C, zl_K, zl_M, zl_ar0, zl_ar1, zl_ar2, zl_ar3, zl_as0, zl_as1, zl_as2, zl_al, zl_gf, zl_gr, zl_pf, zl_iv, zl_ivn, zlk_n, zlk_c, ztb_n, ztb_c, zin_n, zin_1, zin_c, Int.reduceLT, decide_true, decide_false, Bool.true_and, Bool.and_true, List.length_cons, List.length_nil, Int.reduceSub, Int.reduceEq, Int.natCast_zero, zk_s, z_in_n, z_in_c, z_gt_0, z_gt_s, zst_0, zst_1, zst_s, zsl_0, zsl_1, zsl_s, zc_n, zc_i, zc_l, zc_r, zc_u, zca_n, zca_i, zca_l, zca_r, zca_u, zrt_i, zrt_z, zrt_o, z_cal_0, z_cal_s, true_and, and_true, List.nil_append, List.cons_append, Option.toList_some, Option.toList_none, Nat.reduceAdd, Nat.reduceBEq, Nat.reduceLT, Nat.reduceLeDiff, Nat.reduceSub, Int.reduceAdd, Int.reduceLE, Int.reduceToNat, Int.cast_ofNat_Int, Bool.or_true, Bool.true_or, Bool.or_false, Bool.false_or, Nat.le_refl, Nat.zero_le, or_true, true_or, or_false, false_or, not_true_eq_false, not_false_eq_true, not_false_iff, false_implies, true_implies, eq_self, zo_iconst, zo_bipush, zo_sipush, zo_lconst, zo_ldc, zo_ldc_w, zo_ldc2_w, zo_iload_n, zo_iload, zo_lload_n, zo_lload, zo_aload_n, zo_aload, zo_istore_n, zo_istore, zo_lstore_n, zo_lstore, zo_astore_n, zo_astore, zo_iinc, zo_iadd, zo_isub, zo_imul, zo_iand, zo_ior, zo_ixor, zo_ishl, zo_ishr, zo_iushr, zo_idiv, zo_irem, zo_ladd, zo_lsub, zo_lmul, zo_ldiv, zo_lrem, zo_lcmp, zo_i2l, zo_i2b, zo_i2s, zo_dup, zo_dup2, zo_aconst_null, zo_if_icmp, zo_ifCond, zo_goto, zo_ifnull, zo_ifnonnull, zo_iaload, zo_baload, zo_laload, zo_aaload, zo_iastore, zo_bastore, zo_lastore, zo_arraylength, zo_getfield, zo_putfield, zo_tableswitch, zo_lookupswitch, zo_ireturn, zo_lreturn, zo_areturn, zo_return, zo_invokestatic, zo_invokevirtual, zo_new, zo_invokespecial, zo_newarray, zo_anewarray, zo_aastore, zy_0_1, zy_0_2, zy_0_3, zy_1_1, zy_1_2, zy_2_1, zy_2_2, zy_2_3, zy_3_0, zy_4_3, zy_5_1, zy_5_2, zy_6_5, zy_6_6, zy_6_7, zy_6_8, zy_6_9, zy_6_10, zy_7_2, zy_7_6, zy_7_9, zy_7_10, zy_7_11, zy_7_12, zy_7_14, zy_7_21, zy_7_30, zq_iconst, zq_bipush, zq_sipush, zq_lconst0, zq_lconst1, zq_ldc, zq_ldc_w, zq_ldc2_w, zq_iload0, zq_iload1, zq_iload2, zq_iload3, zq_iload, zq_lload0, zq_lload1, zq_lload2, zq_lload3, zq_lload, zq_aload0, zq_aload1, zq_aload2, zq_aload3, zq_aload, zq_istore0, zq_istore1, zq_istore2, zq_istore3, zq_istore, zq_lstore0, zq_lstore1, zq_lstore2, zq_lstore3, zq_lstore, zq_astore0, zq_astore0N, zq_astore1, zq_astore1N, zq_astore2, zq_astore2N, zq_astore3, zq_astore3N, zq_astore, zq_astoreN, zq_iinc, zq_iadd, zq_isub, zq_imul, zq_iand, zq_ior, zq_ixor, zq_ishl, zq_ishr, zq_iushr, zq_idiv, zq_irem, zq_ladd, zq_lsub, zq_lmul, zq_ldiv, zq_lrem, zq_lcmp, zq_i2l, zq_i2b, zq_i2s, zq_dup_i, zq_dup_r, zq_dup2, zq_null, zq_icmp_eq, zq_if_eq, zq_icmp_ne, zq_if_ne, zq_icmp_lt, zq_if_lt, zq_icmp_ge, zq_if_ge, zq_icmp_gt, zq_if_gt, zq_icmp_le, zq_if_le, zq_goto, zq_ifnull_r, zq_ifnull_n, zq_ifnonnull_r, zq_ifnonnull_n, zq_iaload, zq_baload, zq_laload, zq_aaload, zq_iastore, zq_bastore, zq_lastore, zq_alen, zq_getf, zq_put, zq_tsw, zq_lsw, zq_ireturn, zq_lreturn, zq_areturn, zq_areturnN, zq_return, zq_invokestatic, zq_invokevirtual, zq_new, zq_invokespecial, zq_newarray, zq_anewarray, zq_aastore, zi_m1, zi_0, zi_1, zi_2, zi_3, zi_4, zi_5, zi_6, zi_8, zi_16, zb_m10, zb_m4, zb_m3, zb_m2, zb_6, zb_7, zb_8, zb_9, zb_10, zb_16, zb_20, zb_23, zb_30, zb_32, zb_35, zb_46, zb_48, zb_56, zb_57, zb_59, zb_63, zb_70, zb_98, zb_99, zb_100, zb_111, zb_112, zs_192, zs_255, zs_256, zs_511, zs_512, zs_12345, zf_X7_10_0, zf_X7_19_0, zf_X7_26_0, zf_X7_33_0, zf_X7_39_0, zf_X7_43_0, zf_X7_47_0, zf_X7_50_0, zf_X7_53_0, zf_X7_56_0, zf_X7_59_0, zkc_X7_223, zkl_X7_313, zkl_X7_240, zkl_X7_305, za_C_2, za_C_3, za_C_4, za_C_5, za_C_6, za_C_8, za_C_9, za_C_10, za_C_12, za_C_14, za_C_15, za_C_16, za_C_17, za_C_22, za_C_23, za_C_24, za_C_25, dX7_fourth_0, dX7_fourth_1, dX7_fourth_2, dX7_fourth_3, dX7_fourth_4, dX7_fourth_5, dX7_fourth_6, dX7_fourth_9, dX7_fourth_12, dX7_fourth_15, dX7_fourth_16, dX7_fourth_19, dX7_fourth_22, dX7_fourth_23, dX7_fourth_26, dX7_fourth_29, dX7_fourth_30, dX7_fourth_33, dX7_fourth_34, dX7_fourth_37, dX7_fourth_38, dX7_fourth_41, dX7_fourth_44, dX7_fourth_45, dX7_fourth_46, dX7_fourth_47, dX7_fourth_48, dX7_fourth_49, dX7_fourth_50, dX7_fourth_53, dX7_fourth_56, dX7_fourth_57, cr_X7_fourth_87, cr_X7_fourth_131, cr_X7_fourth_152, cr_X7_fourth_193, wr_X2_number_B, wr_X1_bits, wr_X7_holds, wr_X5_allow]
    exact key (tN T) 0 (by omega)
  · exact h.elim
theorem ok_X7_fourth (T : ZT) {tl : List ZE} : z_Ok (z_shC tl) yX7_fourth cX7_fourth 3 (some .int) ({ frames := 4, cells := 0, slots := 0, locals := 90 } : Room) 0 (wp_X7_fourth T) := z_Ok_of (pu_X7_fourth T) z_fX7_ok z_kX7_ok co_X7_fourth ⟨by decide, by decide⟩ (by decide +kernel)
theorem rec_X7_fourth (T : ZT) {tl : List ZE} : z_rec (z_shC tl) (wp_X7_fourth T) 6 := by
  intro as S post h
  unfold wp_X7_fourth at h
  split at h
  · exact ⟨_, _, _, rfl, rfl⟩
  · exact h.elim

