/-! the burnt, what was said, sheets, lots of the class -/
def ab_pop (s : Nat) : Nat := (List.range 9).foldl (fun a b => a + if s.testBit b then 1 else 0) 0
theorem pop_or : ∀ s, s < 512 → ∀ b, b < 9 → s.testBit b = false → ab_pop (s ||| 2 ^ b) = ab_pop s + 1 := by decide +kernel
theorem pop_le : ∀ s, s < 512 → ab_pop s ≤ 9 ∧ (ab_pop s = 9 → ∀ b, b < 9 → s.testBit b = true) := by decide +kernel
def ab_brn (n : Nat) (od : Nat → Nat) : Prop := n ≤ 9 ∧ ∀ i, i < n → od i ≤ 8 ∧ (ab_bits od i).testBit (od i) = false
theorem ab_bits_s {od : Nat → Nat} {n : Nat} : ab_bits od (n + 1) = ab_bits od n ||| 2 ^ od n := rfl
theorem ab_bits_lt {od : Nat → Nat} : ∀ n, (∀ i, i < n → od i ≤ 8 ∧ (ab_bits od i).testBit (od i) = false) → ab_bits od n < 512 ∧ ab_pop (ab_bits od n) = n
  | 0, _ => by unfold ab_bits; decide
  | n + 1, h => by
    obtain ⟨h1, h2⟩ := ab_bits_lt n (fun i hi => h i (by omega))
    obtain ⟨h3, h4⟩ := h n (by omega)
    unfold ab_bits
    exact ⟨(bt_or _ h1 _ (by omega)).2, by rw [pop_or _ h1 _ (by omega) h4, h2]⟩
theorem ab_bits_upd {od : Nat → Nat} {b : Nat} {m : Nat} : ∀ n, n ≤ m → ab_bits (va_up od m b) n = ab_bits od n
  | 0, _ => rfl
  | n + 1, h => by
    unfold ab_bits
    rw [ab_bits_upd n (by omega), va_up_ne _ _ (by omega)]
theorem ab_brn_room {n : Nat} {od : Nat → Nat} (h : ab_brn n od) {b : Nat} (hb : b ≤ 8) (hf : (ab_bits od n).testBit b = false) : n < 9 ∧ ab_brn (n + 1) (va_up od n b) := by
  obtain ⟨h1, h2⟩ := ab_bits_lt n h.2
  have hn : n < 9 := by
    rcases Nat.lt_or_ge n 9 with q | q
    · exact q
    · have := (pop_le _ h1).2 (by have := h.1; omega) b (by omega)
      rw [hf] at this
      cases this
  refine ⟨hn, by omega, fun i hi => ?_⟩
  rw [ab_bits_upd i (by omega)]
  by_cases e : i = n
  · subst e; rw [va_up_self]; exact ⟨hb, hf⟩
  · rw [va_up_ne _ _ e]; exact h.2 i (by omega)
def c_brn (n : Nat) (od : Nat → Nat) (S : ZS) : Prop := S.1 11 1 = nI n ∧ S.1 11 2 = nI (ab_bits od n) ∧ ∀ i, i < n → S.1 12 i = nI (od i)
def c_frT (S S' : ZS) : Prop := (∀ a, ¬ (a = 11 ∨ a = 12) → S'.1 a = S.1 a) ∧ S'.2 = S.2
theorem c_frT_u {S S' S'' : ZS} (h' : c_frT S' S'') (h : c_frT S S') : c_frT S S'' := ⟨fun a ha => (h'.1 a ha).trans (h.1 a ha), h'.2.trans h.2⟩
def wp_X1_size : ZW := fun as S k => match as with
  | [.ref 11] => k (some (.int (S.1 11 1))) S
  | _ => False
theorem wr_X1_size {S : ZS} {k : Option Value → ZS → Prop} : wp_X1_size [.ref 11] S k = (k (some (.int (S.1 11 1))) S) := rfl
def cs_X1_size : List (Nat × ZC) := []
set_option maxRecDepth 20000 in
theorem co_X1_size {tl : List ZE} : z_csok RX1 ({ frames := 0, cells := 0, slots := 0, locals := 0 } : Room) (z_shC tl) cs_X1_size := z_cs0
set_option maxHeartbeats 4000000 in
set_option maxRecDepth 20000 in
theorem pu_X1_size {tl : List ZE} : z_Pure cX1_size 1 (z_shC tl) z_fX1 cs_X1_size z_kcX1 z_klX1 (some .int) 0 wp_X1_size := by
  intro as S post h
  unfold wp_X1_size at h
  split at h
  · skip
    refine ⟨Nat.le_of_ble_eq_true rfl, fun K hK => ?_⟩
    change K 0 0 [some (.ref 11)] [] S
    refine hK (z_in []) 60 _ _ _ _ _ (Nat.zero_le _) ?_
    simp (config := { maxSteps := 10000000 }) only [z40, z20, z10, z01, zm0, z0m, ze_s, ze_ok, zt_s, zt_t, zt_f, zl_I, zl_J, zl_R, zl_N, zl_C, zl_K, zl_M, zl_ar0, zl_ar1, zl_ar2, zl_ar3, zl_as0, zl_as1, zl_as2, zl_al, zl_gf, zl_gr, zl_pf, zl_iv, zl_ivn, zlk_n, zlk_c, ztb_n, ztb_c, zin_n, zin_1, zin_c, Int.reduceLT, decide_true, decide_false, Bool.true_and, Bool.and_true, List.length_cons, List.length_nil, Int.reduceSub, Int.reduceEq, Int.natCast_zero, zk_s, z_in_n, z_in_c, z_gt_0, z_gt_s, zst_0, zst_1, zst_s, zsl_0, zsl_1, zsl_s, zc_n, zc_i, zc_l, zc_r, zc_u, zca_n, zca_i, zca_l, zca_r, zca_u, zrt_i, zrt_z, zrt_o, z_cal_0, z_cal_s, true_and, and_true, List.nil_append, List.cons_append, Option.toList_some, Option.toList_none, Nat.reduceAdd, Nat.reduceBEq, Nat.reduceLT, Nat.reduceLeDiff, Nat.reduceSub, Int.reduceAdd, Int.reduceLE, Int.reduceToNat, Int.cast_ofNat_Int, Bool.or_true, Bool.true_or, Bool.or_false, Bool.false_or, Nat.le_refl, Nat.zero_le, or_true, true_or, or_false, false_or, not_true_eq_false, not_false_eq_true, not_false_iff, false_implies, true_implies, eq_self, zo_iconst, zo_bipush, zo_sipush, zo_lconst, zo_ldc, zo_ldc_w, zo_ldc2_w, zo_iload_n, zo_iload, zo_lload_n, zo_lload, zo_aload_n, zo_aload, zo_istore_n, zo_istore, zo_lstore_n, zo_lstore, zo_astore_n, zo_astore, zo_iinc, zo_iadd, zo_isub, zo_imul, zo_iand, zo_ior, zo_ixor, zo_ishl, zo_ishr, zo_iushr, zo_idiv, zo_irem, zo_ladd, zo_lsub, zo_lmul, zo_ldiv, zo_lrem, zo_lcmp, zo_i2l, zo_i2b, zo_i2s, zo_dup, zo_dup2, zo_aconst_null, zo_if_icmp, zo_ifCond, zo_goto, zo_ifnull, zo_ifnonnull, zo_iaload, zo_baload, zo_laload, zo_aaload, zo_iastore, zo_bastore, zo_lastore, zo_arraylength, zo_getfield, zo_putfield, zo_tableswitch, zo_lookupswitch, zo_ireturn, zo_lreturn, zo_areturn, zo_return, zo_invokestatic, zo_invokevirtual, zo_new, zo_invokespecial, zo_newarray, zo_anewarray, zo_aastore, zy_0_1, zy_0_2, zy_0_3, zy_1_1, zy_1_2, zy_2_1, zy_2_2, zy_2_3, zy_3_0, zy_4_3, zy_5_1, zy_5_2, zy_6_5, zy_6_6, zy_6_7, zy_6_8, zy_6_9, zy_6_10, zy_7_2, zy_7_6, zy_7_9, zy_7_10, zy_7_11, zy_7_12, zy_7_14, zy_7_21, zy_7_30, zq_iconst, zq_bipush, zq_sipush, zq_lconst0, zq_lconst1, zq_ldc, zq_ldc_w, zq_ldc2_w, zq_iload0, zq_iload1, zq_iload2, zq_iload3, zq_iload, zq_lload0, zq_lload1, zq_lload2, zq_lload3, zq_lload, zq_aload0, zq_aload1, zq_aload2, zq_aload3, zq_aload, zq_istore0, zq_istore1, zq_istore2, zq_istore3, zq_istore, zq_lstore0, zq_lstore1, zq_lstore2, zq_lstore3, zq_lstore, zq_astore0, zq_astore0N, zq_astore1, zq_astore1N, zq_astore2, zq_astore2N, zq_astore3, zq_astore3N, zq_astore, zq_astoreN, zq_iinc, zq_iadd, zq_isub, zq_imul, zq_iand, zq_ior, zq_ixor, zq_ishl, zq_ishr, zq_iushr, zq_idiv, zq_irem, zq_ladd, zq_lsub, zq_lmul, zq_ldiv, zq_lrem, zq_lcmp, zq_i2l, zq_i2b, zq_i2s, zq_dup_i, zq_dup_r, zq_dup2, zq_null, zq_icmp_eq, zq_if_eq, zq_icmp_ne, zq_if_ne, zq_icmp_lt, zq_if_lt, zq_icmp_ge, zq_if_ge, zq_icmp_gt, zq_if_gt, zq_icmp_le, zq_if_le, zq_goto, zq_ifnull_r, zq_ifnull_n, zq_ifnonnull_r, zq_ifnonnull_n, zq_iaload, zq_baload, zq_laload, zq_aaload, zq_iastore, zq_bastore, zq_lastore, zq_alen, zq_getf, zq_put, zq_tsw, zq_lsw, zq_ireturn, zq_lreturn, zq_areturn, zq_areturnN, zq_return, zq_invokestatic, zq_invokevirtual, zq_new, zq_invokespecial, zq_newarray, zq_anewarray, zq_aastore, zi_m1, zi_0, zi_1, zi_2, zi_3, zi_4, zi_5, zi_6, zi_8, zi_16, zb_m10, zb_m4, zb_m3, zb_m2, zb_6, zb_7, zb_8, zb_9, zb_10, zb_16, zb_20, zb_23, zb_30, zb_32, zb_35, zb_46, zb_48, zb_56, zb_57, zb_59, zb_63, zb_70, zb_98, zb_99, zb_100, zb_111, zb_112, zs_192, zs_255, zs_256, zs_511, zs_512, zs_12345, zf_X1_9_11, zf_X1_15_11, zf_X1_19_11, za_C_2, za_C_3, za_C_4, za_C_5, za_C_6, za_C_8, za_C_9, za_C_10, za_C_12, za_C_14, za_C_15, za_C_16, za_C_17, za_C_22, za_C_23, za_C_24, za_C_25, dX1_size_0, dX1_size_1, dX1_size_4]
    exact h
  · exact h.elim
theorem ok_X1_size {tl : List ZE} : z_Ok (z_shC tl) yX1_size cX1_size 1 (some .int) ({ frames := 0, cells := 0, slots := 0, locals := 0 } : Room) 0 wp_X1_size := z_Ok_of pu_X1_size z_fX1_ok z_kX1_ok co_X1_size ⟨by decide, by decide⟩ (by decide +kernel)
theorem rec_X1_size {tl : List ZE} : z_rec (z_shC tl) wp_X1_size 1 := by
  intro as S post h
  unfold wp_X1_size at h
  split at h
  · exact ⟨_, _, _, rfl, rfl⟩
  · exact h.elim
def wp_X1_bits : ZW := fun as S k => match as with
  | [.ref 11] => k (some (.int (S.1 11 2))) S
  | _ => False
theorem wr_X1_bits {S : ZS} {k : Option Value → ZS → Prop} : wp_X1_bits [.ref 11] S k = (k (some (.int (S.1 11 2))) S) := rfl
def cs_X1_bits : List (Nat × ZC) := []
set_option maxRecDepth 20000 in
theorem co_X1_bits {tl : List ZE} : z_csok RX1 ({ frames := 0, cells := 0, slots := 0, locals := 0 } : Room) (z_shC tl) cs_X1_bits := z_cs0
set_option maxHeartbeats 4000000 in
set_option maxRecDepth 20000 in
theorem pu_X1_bits {tl : List ZE} : z_Pure cX1_bits 1 (z_shC tl) z_fX1 cs_X1_bits z_kcX1 z_klX1 (some .int) 0 wp_X1_bits := by
  intro as S post h
  unfold wp_X1_bits at h
  split at h
  · skip
    refine ⟨Nat.le_of_ble_eq_true rfl, fun K hK => ?_⟩
    change K 0 0 [some (.ref 11)] [] S
    refine hK (z_in []) 60 _ _ _ _ _ (Nat.zero_le _) ?_
    simp (config := { maxSteps := 10000000 }) only [z40, z20, z10, z01, zm0, z0m, ze_s, ze_ok, zt_s, zt_t, zt_f, zl_I, zl_J, zl_R, zl_N, zl_C, zl_K, zl_M, zl_ar0, zl_ar1, zl_ar2, zl_ar3, zl_as0, zl_as1, zl_as2, zl_al, zl_gf, zl_gr, zl_pf, zl_iv, zl_ivn, zlk_n, zlk_c, ztb_n, ztb_c, zin_n, zin_1, zin_c, Int.reduceLT, decide_true, decide_false, Bool.true_and, Bool.and_true, List.length_cons, List.length_nil, Int.reduceSub, Int.reduceEq, Int.natCast_zero, zk_s, z_in_n, z_in_c, z_gt_0, z_gt_s, zst_0, zst_1, zst_s, zsl_0, zsl_1, zsl_s, zc_n, zc_i, zc_l, zc_r, zc_u, zca_n, zca_i, zca_l, zca_r, zca_u, zrt_i, zrt_z, zrt_o, z_cal_0, z_cal_s, true_and, and_true, List.nil_append, List.cons_append, Option.toList_some, Option.toList_none, Nat.reduceAdd, Nat.reduceBEq, Nat.reduceLT, Nat.reduceLeDiff, Nat.reduceSub, Int.reduceAdd, Int.reduceLE, Int.reduceToNat, Int.cast_ofNat_Int, Bool.or_true, Bool.true_or, Bool.or_false, Bool.false_or, Nat.le_refl, Nat.zero_le, or_true, true_or, or_false, false_or, not_true_eq_false, not_false_eq_true, not_false_iff, false_implies, true_implies, eq_self, zo_iconst, zo_bipush, zo_sipush, zo_lconst, zo_ldc, zo_ldc_w, zo_ldc2_w, zo_iload_n, zo_iload, zo_lload_n, zo_lload, zo_aload_n, zo_aload, zo_istore_n, zo_istore, zo_lstore_n, zo_lstore, zo_astore_n, zo_astore, zo_iinc, zo_iadd, zo_isub, zo_imul, zo_iand, zo_ior, zo_ixor, zo_ishl, zo_ishr, zo_iushr, zo_idiv, zo_irem, zo_ladd, zo_lsub, zo_lmul, zo_ldiv, zo_lrem, zo_lcmp, zo_i2l, zo_i2b, zo_i2s, zo_dup, zo_dup2, zo_aconst_null, zo_if_icmp, zo_ifCond, zo_goto, zo_ifnull, zo_ifnonnull, zo_iaload, zo_baload, zo_laload, zo_aaload, zo_iastore, zo_bastore, zo_lastore, zo_arraylength, zo_getfield, zo_putfield, zo_tableswitch, zo_lookupswitch, zo_ireturn, zo_lreturn, zo_areturn, zo_return, zo_invokestatic, zo_invokevirtual, zo_new, zo_invokespecial, zo_newarray, zo_anewarray, zo_aastore, zy_0_1, zy_0_2, zy_0_3, zy_1_1, zy_1_2, zy_2_1, zy_2_2, zy_2_3, zy_3_0, zy_4_3, zy_5_1, zy_5_2, zy_6_5, zy_6_6, zy_6_7, zy_6_8, zy_6_9, zy_6_10, zy_7_2, zy_7_6, zy_7_9, zy_7_10, zy_7_11, zy_7_12, zy_7_14, zy_7_21, zy_7_30, zq_iconst, zq_bipush, zq_sipush, zq_lconst0, zq_lconst1, zq_ldc, zq_ldc_w, zq_ldc2_w, zq_iload0, zq_iload1, zq_iload2, zq_iload3, zq_iload, zq_lload0, zq_lload1, zq_lload2, zq_lload3, zq_lload, zq_aload0, zq_aload1, zq_aload2, zq_aload3, zq_aload, zq_istore0, zq_istore1, zq_istore2, zq_istore3, zq_istore, zq_lstore0, zq_lstore1, zq_lstore2, zq_lstore3, zq_lstore, zq_astore0, zq_astore0N, zq_astore1, zq_astore1N, zq_astore2, zq_astore2N, zq_astore3, zq_astore3N, zq_astore, zq_astoreN, zq_iinc, zq_iadd, zq_isub, zq_imul, zq_iand, zq_ior, zq_ixor, zq_ishl, zq_ishr, zq_iushr, zq_idiv, zq_irem, zq_ladd, zq_lsub, zq_lmul, zq_ldiv, zq_lrem, zq_lcmp, zq_i2l, zq_i2b, zq_i2s, zq_dup_i, zq_dup_r, zq_dup2, zq_null, zq_icmp_eq, zq_if_eq, zq_icmp_ne, zq_if_ne, zq_icmp_lt, zq_if_lt, zq_icmp_ge, zq_if_ge, zq_icmp_gt, zq_if_gt, zq_icmp_le, zq_if_le, zq_goto, zq_ifnull_r, zq_ifnull_n, zq_ifnonnull_r, zq_ifnonnull_n, zq_iaload, zq_baload, zq_laload, zq_aaload, zq_iastore, zq_bastore, zq_lastore, zq_alen, zq_getf, zq_put, zq_tsw, zq_lsw, zq_ireturn, zq_lreturn, zq_areturn, zq_areturnN, zq_return, zq_invokestatic, zq_invokevirtual, zq_new, zq_invokespecial, zq_newarray, zq_anewarray, zq_aastore, zi_m1, zi_0, zi_1, zi_2, zi_3, zi_4, zi_5, zi_6, zi_8, zi_16, zb_m10, zb_m4, zb_m3, zb_m2, zb_6, zb_7, zb_8, zb_9, zb_10, zb_16, zb_20, zb_23, zb_30, zb_32, zb_35, zb_46, zb_48, zb_56, zb_57, zb_59, zb_63, zb_70, zb_98, zb_99, zb_100, zb_111, zb_112, zs_192, zs_255, zs_256, zs_511, zs_512, zs_12345, zf_X1_9_11, zf_X1_15_11, zf_X1_19_11, za_C_2, za_C_3, za_C_4, za_C_5, za_C_6, za_C_8, za_C_9, za_C_10, za_C_12, za_C_14, za_C_15, za_C_16, za_C_17, za_C_22, za_C_23, za_C_24, za_C_25, dX1_bits_0, dX1_bits_1, dX1_bits_4]
    exact h
  · exact h.elim
theorem ok_X1_bits {tl : List ZE} : z_Ok (z_shC tl) yX1_bits cX1_bits 1 (some .int) ({ frames := 0, cells := 0, slots := 0, locals := 0 } : Room) 0 wp_X1_bits := z_Ok_of pu_X1_bits z_fX1_ok z_kX1_ok co_X1_bits ⟨by decide, by decide⟩ (by decide +kernel)
theorem rec_X1_bits {tl : List ZE} : z_rec (z_shC tl) wp_X1_bits 1 := by
  intro as S post h
  unfold wp_X1_bits at h
  split at h
  · exact ⟨_, _, _, rfl, rfl⟩
  · exact h.elim
def wp_X1_append : ZW := fun as S k => match as with
  | [.ref 11, .int v] => ∃ (n : Nat) (od : Nat → Nat), ab_brn n od ∧ c_brn n od S ∧ (∀ b, v = nI b → b ≤ 8 → (ab_bits od n).testBit b = false → n < 9 → ∀ S', ab_brn (n + 1) (va_up od n b) → c_brn (n + 1) (va_up od n b) S' → c_frT S S' → k (some (.int (nI (n + 1)))) S') ∧ (¬ (∃ b, v = nI b ∧ b ≤ 8 ∧ (ab_bits od n).testBit b = false) → k (some (.int (-2))) S)
  | _ => False
theorem wr_X1_append {v : Int32} {S : ZS} {k : Option Value → ZS → Prop} : wp_X1_append [.ref 11, .int v] S k = (∃ (n : Nat) (od : Nat → Nat), ab_brn n od ∧ c_brn n od S ∧ (∀ b, v = nI b → b ≤ 8 → (ab_bits od n).testBit b = false → n < 9 → ∀ S', ab_brn (n + 1) (va_up od n b) → c_brn (n + 1) (va_up od n b) S' → c_frT S S' → k (some (.int (nI (n + 1)))) S') ∧ (¬ (∃ b, v = nI b ∧ b ≤ 8 ∧ (ab_bits od n).testBit b = false) → k (some (.int (-2))) S)) := rfl
def cs_X1_append : List (Nat × ZC) := [(22, (3, 0, true, wp_X7_within)), (26, (2, 0, true, wp_X7_holds))]
theorem cr_X1_append_22 : cs_X1_append.lookup 22 = some (3, 0, true, wp_X7_within) := rfl
theorem cr_X1_append_26 : cs_X1_append.lookup 26 = some (2, 0, true, wp_X7_holds) := rfl
set_option maxRecDepth 20000 in
theorem co_X1_append {tl : List ZE} : z_csok RX1 ({ frames := 2, cells := 0, slots := 0, locals := 43 } : Room) (z_shC tl) cs_X1_append := z_cs2 (z_csN (host := "NineBooks") ok_X7_within (z_gn 340 (by decide +kernel) rfl) (z_g 211 (by decide +kernel) rfl) (z_g 44 (by decide +kernel) rfl) (z_g 212 (by decide +kernel) rfl) rfl rfl (by decide +kernel) ⟨by decide, by decide⟩)
  (z_cs2 (z_csN (host := "NineBooks") ok_X7_holds (z_gn 341 (by decide +kernel) rfl) (z_g 342 (by decide +kernel) rfl) (z_g 44 (by decide +kernel) rfl) (z_g 343 (by decide +kernel) rfl) rfl rfl (by decide +kernel) ⟨by decide, by decide⟩)
  (z_cs0))
set_option maxHeartbeats 4000000 in
set_option maxRecDepth 20000 in
theorem pu_X1_append {tl : List ZE} : z_Pure cX1_append 2 (z_shC tl) z_fX1 cs_X1_append z_kcX1 z_klX1 (some .int) 0 wp_X1_append := by
  intro as S post h
  unfold wp_X1_append at h
  split at h
  · rename_i v
    refine ⟨Nat.le_of_ble_eq_true rfl, fun K hK => ?_⟩
    change K 0 0 [some (.ref 11), some (.int v)] [] S
    obtain ⟨n, od, hb, ⟨h1, h2, h3⟩, hk1, hk2⟩ := h
    obtain ⟨g1, g2⟩ := ab_bits_lt n hb.2
    refine hK (z_in []) 80 _ _ _ _ _ (Nat.zero_le _) ?_
    simp (config := { maxSteps := 10000000 }) only [z40, z20, z10, z01, zm0, z0m, ze_s, ze_ok, zt_s, zt_t, zt_f, zl_I, zl_J, zl_R, zl_N, zl_C, zl_K, zl_M, zl_ar0, zl_ar1, zl_ar2, zl_ar3, zl_as0, zl_as1, zl_as2, zl_al, zl_gf, zl_gr, zl_pf, zl_iv, zl_ivn, zlk_n, zlk_c, ztb_n, ztb_c, zin_n, zin_1, zin_c, Int.reduceLT, decide_true, decide_false, Bool.true_and, Bool.and_true, List.length_cons, List.length_nil, Int.reduceSub, Int.reduceEq, Int.natCast_zero, zk_s, z_in_n, z_in_c, z_gt_0, z_gt_s, zst_0, zst_1, zst_s, zsl_0, zsl_1, zsl_s, zc_n, zc_i, zc_l, zc_r, zc_u, zca_n, zca_i, zca_l, zca_r, zca_u, zrt_i, zrt_z, zrt_o, z_cal_0, z_cal_s, true_and, and_true, List.nil_append, List.cons_append, Option.toList_some, Option.toList_none, Nat.reduceAdd, Nat.reduceBEq, Nat.reduceLT, Nat.reduceLeDiff, Nat.reduceSub, Int.reduceAdd, Int.reduceLE, Int.reduceToNat, Int.cast_ofNat_Int, Bool.or_true, Bool.true_or, Bool.or_false, Bool.false_or, Nat.le_refl, Nat.zero_le, or_true, true_or, or_false, false_or, not_true_eq_false, not_false_eq_true, not_false_iff, false_implies, true_implies, eq_self, zo_iconst, zo_bipush, zo_sipush, zo_lconst, zo_ldc, zo_ldc_w, zo_ldc2_w, zo_iload_n, zo_iload, zo_lload_n, zo_lload, zo_aload_n, zo_aload, zo_istore_n, zo_istore, zo_lstore_n, zo_lstore, zo_astore_n, zo_astore, zo_iinc, zo_iadd, zo_isub, zo_imul, zo_iand, zo_ior, zo_ixor, zo_ishl, zo_ishr, zo_iushr, zo_idiv, zo_irem, zo_ladd, zo_lsub, zo_lmul, zo_ldiv, zo_lrem, zo_lcmp, zo_i2l, zo_i2b, zo_i2s, zo_dup, zo_dup2, zo_aconst_null, zo_if_icmp, zo_ifCond, zo_goto, zo_ifnull, zo_ifnonnull, zo_iaload, zo_baload, zo_laload, zo_aaload, zo_iastore, zo_bastore, zo_lastore, zo_arraylength, zo_getfield, zo_putfield, zo_tableswitch, zo_lookupswitch, zo_ireturn, zo_lreturn, zo_areturn, zo_return, zo_invokestatic, zo_invokevirtual, zo_new, zo_invokespecial, zo_newarray, zo_anewarray, zo_aastore, zy_0_1, zy_0_2, zy_0_3, zy_1_1, zy_1_2, zy_2_1, zy_2_2, zy_2_3, zy_3_0, zy_4_3, zy_5_1, zy_5_2, zy_6_5, zy_6_6, zy_6_7, zy_6_8, zy_6_9, zy_6_10, zy_7_2, zy_7_6, zy_7_9, zy_7_10, zy_7_11, zy_7_12, zy_7_14, zy_7_21, zy_7_30, zq_iconst, zq_bipush, zq_sipush, zq_lconst0, zq_lconst1, zq_ldc, zq_ldc_w, zq_ldc2_w, zq_iload0, zq_iload1, zq_iload2, zq_iload3, zq_iload, zq_lload0, zq_lload1, zq_lload2, zq_lload3, zq_lload, zq_aload0, zq_aload1, zq_aload2, zq_aload3, zq_aload, zq_istore0, zq_istore1, zq_istore2, zq_istore3, zq_istore, zq_lstore0, zq_lstore1, zq_lstore2, zq_lstore3, zq_lstore, zq_astore0, zq_astore0N, zq_astore1, zq_astore1N, zq_astore2, zq_astore2N, zq_astore3, zq_astore3N, zq_astore, zq_astoreN, zq_iinc, zq_iadd, zq_isub, zq_imul, zq_iand, zq_ior, zq_ixor, zq_ishl, zq_ishr, zq_iushr, zq_idiv, zq_irem, zq_ladd, zq_lsub, zq_lmul, zq_ldiv, zq_lrem, zq_lcmp, zq_i2l, zq_i2b, zq_i2s, zq_dup_i, zq_dup_r, zq_dup2, zq_null, zq_icmp_eq, zq_if_eq, zq_icmp_ne, zq_if_ne, zq_icmp_lt, zq_if_lt, zq_icmp_ge, zq_if_ge, zq_icmp_gt, zq_if_gt, zq_icmp_le, zq_if_le, zq_goto, zq_ifnull_r, zq_ifnull_n, zq_ifnonnull_r, zq_ifnonnull_n, zq_iaload, zq_baload, zq_laload, zq_aaload, zq_iastore, zq_bastore, zq_lastore, zq_alen, zq_getf, zq_put, zq_tsw, zq_lsw, zq_ireturn, zq_lreturn, zq_areturn, zq_areturnN, zq_return, zq_invokestatic, zq_invokevirtual, zq_new, zq_invokespecial, zq_newarray, zq_anewarray, zq_aastore, zi_m1, zi_0, zi_1, zi_2, zi_3, zi_4, zi_5, zi_6, zi_8, zi_16, zb_m10, zb_m4, zb_m3, zb_m2, zb_6, zb_7, zb_8, zb_9, zb_10, zb_16, zb_20, zb_23, zb_30, zb_32, zb_35, zb_46, zb_48, zb_56, zb_57, zb_59, zb_63, zb_70, zb_98, zb_99, zb_100, zb_111, zb_112, zs_192, zs_255, zs_256, zs_511, zs_512, zs_12345, zf_X1_9_11, zf_X1_15_11, zf_X1_19_11, za_C_2, za_C_3, za_C_4, za_C_5, za_C_6, za_C_8, za_C_9, za_C_10, za_C_12, za_C_14, za_C_15, za_C_16, za_C_17, za_C_22, za_C_23, za_C_24, za_C_25, dX1_append_0, dX1_append_1, dX1_append_2, dX1_append_4, dX1_append_7, dX1_append_10, dX1_append_11, dX1_append_14, dX1_append_15, dX1_append_18, dX1_append_21, dX1_append_22, dX1_append_25, dX1_append_26, dX1_append_29, dX1_append_30, dX1_append_33, dX1_append_35, dX1_append_36, dX1_append_37, dX1_append_40, dX1_append_41, dX1_append_44, dX1_append_45, dX1_append_46, dX1_append_47, dX1_append_48, dX1_append_51, dX1_append_52, dX1_append_53, dX1_append_56, dX1_append_57, dX1_append_58, dX1_append_61, dX1_append_62, dX1_append_63, dX1_append_64, dX1_append_65, dX1_append_68, dX1_append_69, dX1_append_72, cr_X1_append_22, cr_X1_append_26, wr_X7_within, wr_X7_holds]
    have hn9 := hb.1
    simp only [h1, h2, n_ofnat, true_and, and_true, and_self, if_true, n_cl (show n < 2147483648 by omega), z_rd, Nat.reduceEqDiff, false_and, if_false, n_lt (a := n) (b := 9) (by omega) (by omega), nI_1]
    have no : (¬ (∃ b, v = nI b ∧ b ≤ 8 ∧ (ab_bits od n).testBit b = false)) → post (some (.int (-2))) S := hk2
    refine ⟨fun c => ?_, fun c => no (fun ⟨b, e, e2, _⟩ => c (by rw [e]; simp only [n_geL (n := b) (M := 0) 0 rfl (by omega) (by omega), n_leL (n := b) (M := 0) 0 rfl (by omega) (by omega), n_ltL (n := b) (M := 0) 0 rfl (by omega) (by omega), n_gtL (n := b) (M := 0) 0 rfl (by omega) (by omega), n_eqL (n := b) (M := 0) 0 rfl (by omega) (by omega), n_geL (n := b) (M := 8) 8 rfl (by omega) (by omega), n_leL (n := b) (M := 8) 8 rfl (by omega) (by omega), n_ltL (n := b) (M := 8) 8 rfl (by omega) (by omega), n_gtL (n := b) (M := 8) 8 rfl (by omega) (by omega), n_eqL (n := b) (M := 8) 8 rfl (by omega) (by omega)]; omega))⟩
    obtain ⟨b, hb8, rfl⟩ := n_of (x := v) (m := 8) (by simpa [i_le] using c.1) (by simpa [i_le] using c.2)
    have hbit := bt_is _ g1 b (by omega)
    refine ⟨fun c2 => no (fun ⟨b', e, e2, e3⟩ => ?_), fun c2 => ?_⟩
    · rw [n_eq (a := b) (b := b') (by omega) (by omega)] at e
      subst e
      rw [hbit.mp c2.2] at e3
      cases e3
    · have hf : (ab_bits od n).testBit b = false := by
        cases q : (ab_bits od n).testBit b with
        | false => rfl
        | true => exact absurd ⟨c, hbit.mpr q⟩ c2
      obtain ⟨r1, r2⟩ := ab_brn_room hb hb8 hf
      refine ⟨fun _ => ⟨n_in r1 (by omega), ?_⟩, fun z => absurd r1 z⟩
      refine hk1 b rfl hb8 hf r1 _ r2 ⟨?_, ?_, fun i hi => ?_⟩ ⟨fun a ha => ?_, rfl⟩
      · simp [z_rd]
      · simp only [z_rd, true_and, if_true, and_self]
        rw [(bt_or _ g1 b (by omega)).1, ab_bits_s, ab_bits_upd n (Nat.le_refl _), va_up_self]
      · simp only [z_rd, Nat.reduceEqDiff, false_and, if_false, true_and]
        by_cases e : i = n
        · subst e; rw [if_pos rfl, va_up_self]
        · rw [if_neg e, va_up_ne _ _ e]; exact h3 i (by omega)
      · dsimp only
        rw [z_u_o (by omega), z_u_o (by omega), z_u_o (by omega)]
  · exact h.elim
theorem ok_X1_append {tl : List ZE} : z_Ok (z_shC tl) yX1_append cX1_append 2 (some .int) ({ frames := 2, cells := 0, slots := 0, locals := 43 } : Room) 0 wp_X1_append := z_Ok_of pu_X1_append z_fX1_ok z_kX1_ok co_X1_append ⟨by decide, by decide⟩ (by decide +kernel)
theorem rec_X1_append {tl : List ZE} : z_rec (z_shC tl) wp_X1_append 1 := by
  intro as S post h
  unfold wp_X1_append at h
  split at h
  · exact ⟨_, _, _, rfl, rfl⟩
  · exact h.elim
def wp_X1_dropLast : ZW := fun as S k => match as with
  | [.ref 11] => ∃ (n : Nat) (od : Nat → Nat), ab_brn n od ∧ c_brn n od S ∧ (n = 0 → k (some (.int (-3))) S) ∧ (0 < n → ∀ S', ab_brn (n - 1) od → c_brn (n - 1) od S' → c_frT S S' → k (some (.int (nI (n - 1)))) S')
  | _ => False
theorem wr_X1_dropLast {S : ZS} {k : Option Value → ZS → Prop} : wp_X1_dropLast [.ref 11] S k = (∃ (n : Nat) (od : Nat → Nat), ab_brn n od ∧ c_brn n od S ∧ (n = 0 → k (some (.int (-3))) S) ∧ (0 < n → ∀ S', ab_brn (n - 1) od → c_brn (n - 1) od S' → c_frT S S' → k (some (.int (nI (n - 1)))) S')) := rfl
def cs_X1_dropLast : List (Nat × ZC) := [(22, (3, 0, true, wp_X7_within))]
theorem cr_X1_dropLast_22 : cs_X1_dropLast.lookup 22 = some (3, 0, true, wp_X7_within) := rfl
set_option maxRecDepth 20000 in
theorem co_X1_dropLast {tl : List ZE} : z_csok RX1 ({ frames := 1, cells := 0, slots := 0, locals := 22 } : Room) (z_shC tl) cs_X1_dropLast := z_cs2 (z_csN (host := "NineBooks") ok_X7_within (z_gn 340 (by decide +kernel) rfl) (z_g 211 (by decide +kernel) rfl) (z_g 44 (by decide +kernel) rfl) (z_g 212 (by decide +kernel) rfl) rfl rfl (by decide +kernel) ⟨by decide, by decide⟩)
  (z_cs0)
set_option maxHeartbeats 4000000 in
set_option maxRecDepth 20000 in
theorem pu_X1_dropLast {tl : List ZE} : z_Pure cX1_dropLast 1 (z_shC tl) z_fX1 cs_X1_dropLast z_kcX1 z_klX1 (some .int) 0 wp_X1_dropLast := by
  intro as S post h
  unfold wp_X1_dropLast at h
  split at h
  · skip
    refine ⟨Nat.le_of_ble_eq_true rfl, fun K hK => ?_⟩
    change K 0 0 [some (.ref 11)] [] S
    obtain ⟨n, od, hb, ⟨h1, h2, h3⟩, hk1, hk2⟩ := h
    obtain ⟨g1, g2⟩ := ab_bits_lt n hb.2
    refine hK (z_in []) 80 _ _ _ _ _ (Nat.zero_le _) ?_
    simp (config := { maxSteps := 10000000 }) only [z40, z20, z10, z01, zm0, z0m, ze_s, ze_ok, zt_s, zt_t, zt_f, zl_I, zl_J, zl_R, zl_N, zl_C, zl_K, zl_M, zl_ar0, zl_ar1, zl_ar2, zl_ar3, zl_as0, zl_as1, zl_as2, zl_al, zl_gf, zl_gr, zl_pf, zl_iv, zl_ivn, zlk_n, zlk_c, ztb_n, ztb_c, zin_n, zin_1, zin_c, Int.reduceLT, decide_true, decide_false, Bool.true_and, Bool.and_true, List.length_cons, List.length_nil, Int.reduceSub, Int.reduceEq, Int.natCast_zero, zk_s, z_in_n, z_in_c, z_gt_0, z_gt_s, zst_0, zst_1, zst_s, zsl_0, zsl_1, zsl_s, zc_n, zc_i, zc_l, zc_r, zc_u, zca_n, zca_i, zca_l, zca_r, zca_u, zrt_i, zrt_z, zrt_o, z_cal_0, z_cal_s, true_and, and_true, List.nil_append, List.cons_append, Option.toList_some, Option.toList_none, Nat.reduceAdd, Nat.reduceBEq, Nat.reduceLT, Nat.reduceLeDiff, Nat.reduceSub, Int.reduceAdd, Int.reduceLE, Int.reduceToNat, Int.cast_ofNat_Int, Bool.or_true, Bool.true_or, Bool.or_false, Bool.false_or, Nat.le_refl, Nat.zero_le, or_true, true_or, or_false, false_or, not_true_eq_false, not_false_eq_true, not_false_iff, false_implies, true_implies, eq_self, zo_iconst, zo_bipush, zo_sipush, zo_lconst, zo_ldc, zo_ldc_w, zo_ldc2_w, zo_iload_n, zo_iload, zo_lload_n, zo_lload, zo_aload_n, zo_aload, zo_istore_n, zo_istore, zo_lstore_n, zo_lstore, zo_astore_n, zo_astore, zo_iinc, zo_iadd, zo_isub, zo_imul, zo_iand, zo_ior, zo_ixor, zo_ishl, zo_ishr, zo_iushr, zo_idiv, zo_irem, zo_ladd, zo_lsub, zo_lmul, zo_ldiv, zo_lrem, zo_lcmp, zo_i2l, zo_i2b, zo_i2s, zo_dup, zo_dup2, zo_aconst_null, zo_if_icmp, zo_ifCond, zo_goto, zo_ifnull, zo_ifnonnull, zo_iaload, zo_baload, zo_laload, zo_aaload, zo_iastore, zo_bastore, zo_lastore, zo_arraylength, zo_getfield, zo_putfield, zo_tableswitch, zo_lookupswitch, zo_ireturn, zo_lreturn, zo_areturn, zo_return, zo_invokestatic, zo_invokevirtual, zo_new, zo_invokespecial, zo_newarray, zo_anewarray, zo_aastore, zy_0_1, zy_0_2, zy_0_3, zy_1_1, zy_1_2, zy_2_1, zy_2_2, zy_2_3, zy_3_0, zy_4_3, zy_5_1, zy_5_2, zy_6_5, zy_6_6, zy_6_7, zy_6_8, zy_6_9, zy_6_10, zy_7_2, zy_7_6, zy_7_9, zy_7_10, zy_7_11, zy_7_12, zy_7_14, zy_7_21, zy_7_30, zq_iconst, zq_bipush, zq_sipush, zq_lconst0, zq_lconst1, zq_ldc, zq_ldc_w, zq_ldc2_w, zq_iload0, zq_iload1, zq_iload2, zq_iload3, zq_iload, zq_lload0, zq_lload1, zq_lload2, zq_lload3, zq_lload, zq_aload0, zq_aload1, zq_aload2, zq_aload3, zq_aload, zq_istore0, zq_istore1, zq_istore2, zq_istore3, zq_istore, zq_lstore0, zq_lstore1, zq_lstore2, zq_lstore3, zq_lstore, zq_astore0, zq_astore0N, zq_astore1, zq_astore1N, zq_astore2, zq_astore2N, zq_astore3, zq_astore3N, zq_astore, zq_astoreN, zq_iinc, zq_iadd, zq_isub, zq_imul, zq_iand, zq_ior, zq_ixor, zq_ishl, zq_ishr, zq_iushr, zq_idiv, zq_irem, zq_ladd, zq_lsub, zq_lmul, zq_ldiv, zq_lrem, zq_lcmp, zq_i2l, zq_i2b, zq_i2s, zq_dup_i, zq_dup_r, zq_dup2, zq_null, zq_icmp_eq, zq_if_eq, zq_icmp_ne, zq_if_ne, zq_icmp_lt, zq_if_lt, zq_icmp_ge, zq_if_ge, zq_icmp_gt, zq_if_gt, zq_icmp_le, zq_if_le, zq_goto, zq_ifnull_r, zq_ifnull_n, zq_ifnonnull_r, zq_ifnonnull_n, zq_iaload, zq_baload, zq_laload, zq_aaload, zq_iastore, zq_bastore, zq_lastore, zq_alen, zq_getf, zq_put, zq_tsw, zq_lsw, zq_ireturn, zq_lreturn, zq_areturn, zq_areturnN, zq_return, zq_invokestatic, zq_invokevirtual, zq_new, zq_invokespecial, zq_newarray, zq_anewarray, zq_aastore, zi_m1, zi_0, zi_1, zi_2, zi_3, zi_4, zi_5, zi_6, zi_8, zi_16, zb_m10, zb_m4, zb_m3, zb_m2, zb_6, zb_7, zb_8, zb_9, zb_10, zb_16, zb_20, zb_23, zb_30, zb_32, zb_35, zb_46, zb_48, zb_56, zb_57, zb_59, zb_63, zb_70, zb_98, zb_99, zb_100, zb_111, zb_112, zs_192, zs_255, zs_256, zs_511, zs_512, zs_12345, zf_X1_9_11, zf_X1_15_11, zf_X1_19_11, za_C_2, za_C_3, za_C_4, za_C_5, za_C_6, za_C_8, za_C_9, za_C_10, za_C_12, za_C_14, za_C_15, za_C_16, za_C_17, za_C_22, za_C_23, za_C_24, za_C_25, dX1_dropLast_0, dX1_dropLast_1, dX1_dropLast_4, dX1_dropLast_5, dX1_dropLast_6, dX1_dropLast_9, dX1_dropLast_10, dX1_dropLast_13, dX1_dropLast_16, dX1_dropLast_18, dX1_dropLast_19, dX1_dropLast_20, dX1_dropLast_21, dX1_dropLast_24, dX1_dropLast_25, dX1_dropLast_26, dX1_dropLast_29, dX1_dropLast_30, dX1_dropLast_31, dX1_dropLast_34, dX1_dropLast_35, dX1_dropLast_36, dX1_dropLast_39, dX1_dropLast_40, dX1_dropLast_43, dX1_dropLast_44, dX1_dropLast_45, dX1_dropLast_46, dX1_dropLast_47, dX1_dropLast_48, dX1_dropLast_51, dX1_dropLast_52, dX1_dropLast_55, cr_X1_dropLast_22, wr_X7_within]
    have hn9 := hb.1
    simp only [h1, h2, n_ofnat, true_and, and_true, and_self, if_true, z_rd, Nat.reduceEqDiff, false_and, if_false, n_geL (n := n) (M := 1) 1 rfl (by omega) (by omega), n_leL (n := n) (M := 1) 1 rfl (by omega) (by omega), n_ltL (n := n) (M := 1) 1 rfl (by omega) (by omega), n_gtL (n := n) (M := 1) 1 rfl (by omega) (by omega), n_eqL (n := n) (M := 1) 1 rfl (by omega) (by omega), n_le (a := n) (b := 9) (by omega) (by omega)]
    refine ⟨fun c => ?_, fun c => hk1 (by omega)⟩
    have e1 : nI n - 1 = nI (n - 1) := pk_sub (b := 1) c.1
    obtain ⟨m, rfl⟩ : ∃ m, n = m + 1 := ⟨n - 1, by have := c.1; omega⟩
    have hm : m + 1 - 1 = m := rfl
    rw [hm] at e1
    have q := hb.2 m (by omega)
    have g3 := (ab_bits_lt m (fun i hi => hb.2 i (by omega))).1
    simp only [e1, n_cl (show m < 2147483648 by omega), h3 m (by omega)]
    refine ⟨n_in (by omega) (by omega), hk2 (by omega) _ ⟨by omega, fun i hi => hb.2 i (by omega)⟩ ⟨?_, ?_, fun i hi => ?_⟩ ⟨fun a ha => ?_, rfl⟩⟩
    · simp [z_rd]
    · simp only [z_rd, true_and, if_true, and_self, hm]
      rw [ab_bits_s]
      exact bt_un _ g3 _ (by omega) q.2
    · simp only [z_rd, Nat.reduceEqDiff, false_and, if_false]
      exact h3 i (by omega)
    · dsimp only
      rw [z_u_o (by omega), z_u_o (by omega)]
  · exact h.elim
theorem ok_X1_dropLast {tl : List ZE} : z_Ok (z_shC tl) yX1_dropLast cX1_dropLast 1 (some .int) ({ frames := 1, cells := 0, slots := 0, locals := 22 } : Room) 0 wp_X1_dropLast := z_Ok_of pu_X1_dropLast z_fX1_ok z_kX1_ok co_X1_dropLast ⟨by decide, by decide⟩ (by decide +kernel)
theorem rec_X1_dropLast {tl : List ZE} : z_rec (z_shC tl) wp_X1_dropLast 1 := by
  intro as S post h
  unfold wp_X1_dropLast at h
  split at h
  · exact ⟨_, _, _, rfl, rfl⟩
  · exact h.elim
def c_sai (n : Nat) (sd : Nat → Nat × Int32 × Nat) (S : ZS) : Prop := S.1 13 3 = nI n ∧ ∀ i, i < n → S.1 14 i = nI (sd i).1 ∧ S.1 15 i = (sd i).2.1 ∧ S.1 16 i = nI (sd i).2.2
def ab_sai (n : Nat) (sd : Nat → Nat × Int32 × Nat) : Prop := n ≤ 8 ∧ ∀ i, i < n → (sd i).1 ≤ 2 ∧ (sd i).2.2 ≤ 1
def c_frS (S S' : ZS) : Prop := (∀ a, ¬ (13 ≤ a ∧ a ≤ 16) → S'.1 a = S.1 a) ∧ S'.2 = S.2
def wp_X5_size : ZW := fun as S k => match as with
  | [.ref 13] => k (some (.int (S.1 13 3))) S
  | _ => False
theorem wr_X5_size {S : ZS} {k : Option Value → ZS → Prop} : wp_X5_size [.ref 13] S k = (k (some (.int (S.1 13 3))) S) := rfl
def cs_X5_size : List (Nat × ZC) := []
set_option maxRecDepth 20000 in
theorem co_X5_size {tl : List ZE} : z_csok RX5 ({ frames := 0, cells := 0, slots := 0, locals := 0 } : Room) (z_shC tl) cs_X5_size := z_cs0
set_option maxHeartbeats 4000000 in
set_option maxRecDepth 20000 in
theorem pu_X5_size {tl : List ZE} : z_Pure cX5_size 1 (z_shC tl) z_fX5 cs_X5_size z_kcX5 z_klX5 (some .int) 0 wp_X5_size := by
  intro as S post h
  unfold wp_X5_size at h
  split at h
  · skip
    refine ⟨Nat.le_of_ble_eq_true rfl, fun K hK => ?_⟩
    change K 0 0 [some (.ref 13)] [] S
    refine hK (z_in []) 60 _ _ _ _ _ (Nat.zero_le _) ?_
    simp (config := { maxSteps := 10000000 }) only [z40, z20, z10, z01, zm0, z0m, ze_s, ze_ok, zt_s, zt_t, zt_f, zl_I, zl_J, zl_R, zl_N, zl_C, zl_K, zl_M, zl_ar0, zl_ar1, zl_ar2, zl_ar3, zl_as0, zl_as1, zl_as2, zl_al, zl_gf, zl_gr, zl_pf, zl_iv, zl_ivn, zlk_n, zlk_c, ztb_n, ztb_c, zin_n, zin_1, zin_c, Int.reduceLT, decide_true, decide_false, Bool.true_and, Bool.and_true, List.length_cons, List.length_nil, Int.reduceSub, Int.reduceEq, Int.natCast_zero, zk_s, z_in_n, z_in_c, z_gt_0, z_gt_s, zst_0, zst_1, zst_s, zsl_0, zsl_1, zsl_s, zc_n, zc_i, zc_l, zc_r, zc_u, zca_n, zca_i, zca_l, zca_r, zca_u, zrt_i, zrt_z, zrt_o, z_cal_0, z_cal_s, true_and, and_true, List.nil_append, List.cons_append, Option.toList_some, Option.toList_none, Nat.reduceAdd, Nat.reduceBEq, Nat.reduceLT, Nat.reduceLeDiff, Nat.reduceSub, Int.reduceAdd, Int.reduceLE, Int.reduceToNat, Int.cast_ofNat_Int, Bool.or_true, Bool.true_or, Bool.or_false, Bool.false_or, Nat.le_refl, Nat.zero_le, or_true, true_or, or_false, false_or, not_true_eq_false, not_false_eq_true, not_false_iff, false_implies, true_implies, eq_self, zo_iconst, zo_bipush, zo_sipush, zo_lconst, zo_ldc, zo_ldc_w, zo_ldc2_w, zo_iload_n, zo_iload, zo_lload_n, zo_lload, zo_aload_n, zo_aload, zo_istore_n, zo_istore, zo_lstore_n, zo_lstore, zo_astore_n, zo_astore, zo_iinc, zo_iadd, zo_isub, zo_imul, zo_iand, zo_ior, zo_ixor, zo_ishl, zo_ishr, zo_iushr, zo_idiv, zo_irem, zo_ladd, zo_lsub, zo_lmul, zo_ldiv, zo_lrem, zo_lcmp, zo_i2l, zo_i2b, zo_i2s, zo_dup, zo_dup2, zo_aconst_null, zo_if_icmp, zo_ifCond, zo_goto, zo_ifnull, zo_ifnonnull, zo_iaload, zo_baload, zo_laload, zo_aaload, zo_iastore, zo_bastore, zo_lastore, zo_arraylength, zo_getfield, zo_putfield, zo_tableswitch, zo_lookupswitch, zo_ireturn, zo_lreturn, zo_areturn, zo_return, zo_invokestatic, zo_invokevirtual, zo_new, zo_invokespecial, zo_newarray, zo_anewarray, zo_aastore, zy_0_1, zy_0_2, zy_0_3, zy_1_1, zy_1_2, zy_2_1, zy_2_2, zy_2_3, zy_3_0, zy_4_3, zy_5_1, zy_5_2, zy_6_5, zy_6_6, zy_6_7, zy_6_8, zy_6_9, zy_6_10, zy_7_2, zy_7_6, zy_7_9, zy_7_10, zy_7_11, zy_7_12, zy_7_14, zy_7_21, zy_7_30, zq_iconst, zq_bipush, zq_sipush, zq_lconst0, zq_lconst1, zq_ldc, zq_ldc_w, zq_ldc2_w, zq_iload0, zq_iload1, zq_iload2, zq_iload3, zq_iload, zq_lload0, zq_lload1, zq_lload2, zq_lload3, zq_lload, zq_aload0, zq_aload1, zq_aload2, zq_aload3, zq_aload, zq_istore0, zq_istore1, zq_istore2, zq_istore3, zq_istore, zq_lstore0, zq_lstore1, zq_lstore2, zq_lstore3, zq_lstore, zq_astore0, zq_astore0N, zq_astore1, zq_astore1N, zq_astore2, zq_astore2N, zq_astore3, zq_astore3N, zq_astore, zq_astoreN, zq_iinc, zq_iadd, zq_isub, zq_imul, zq_iand, zq_ior, zq_ixor, zq_ishl, zq_ishr, zq_iushr, zq_idiv, zq_irem, zq_ladd, zq_lsub, zq_lmul, zq_ldiv, zq_lrem, zq_lcmp, zq_i2l, zq_i2b, zq_i2s, zq_dup_i, zq_dup_r, zq_dup2, zq_null, zq_icmp_eq, zq_if_eq, zq_icmp_ne, zq_if_ne, zq_icmp_lt, zq_if_lt, zq_icmp_ge, zq_if_ge, zq_icmp_gt, zq_if_gt, zq_icmp_le, zq_if_le, zq_goto, zq_ifnull_r, zq_ifnull_n, zq_ifnonnull_r, zq_ifnonnull_n, zq_iaload, zq_baload, zq_laload, zq_aaload, zq_iastore, zq_bastore, zq_lastore, zq_alen, zq_getf, zq_put, zq_tsw, zq_lsw, zq_ireturn, zq_lreturn, zq_areturn, zq_areturnN, zq_return, zq_invokestatic, zq_invokevirtual, zq_new, zq_invokespecial, zq_newarray, zq_anewarray, zq_aastore, zi_m1, zi_0, zi_1, zi_2, zi_3, zi_4, zi_5, zi_6, zi_8, zi_16, zb_m10, zb_m4, zb_m3, zb_m2, zb_6, zb_7, zb_8, zb_9, zb_10, zb_16, zb_20, zb_23, zb_30, zb_32, zb_35, zb_46, zb_48, zb_56, zb_57, zb_59, zb_63, zb_70, zb_98, zb_99, zb_100, zb_111, zb_112, zs_192, zs_255, zs_256, zs_511, zs_512, zs_12345, zf_X5_11_13, zf_X5_15_13, zf_X5_18_13, zf_X5_21_13, za_C_2, za_C_3, za_C_4, za_C_5, za_C_6, za_C_8, za_C_9, za_C_10, za_C_12, za_C_14, za_C_15, za_C_16, za_C_17, za_C_22, za_C_23, za_C_24, za_C_25, dX5_size_0, dX5_size_1, dX5_size_4]
    exact h
  · exact h.elim
theorem ok_X5_size {tl : List ZE} : z_Ok (z_shC tl) yX5_size cX5_size 1 (some .int) ({ frames := 0, cells := 0, slots := 0, locals := 0 } : Room) 0 wp_X5_size := z_Ok_of pu_X5_size z_fX5_ok z_kX5_ok co_X5_size ⟨by decide, by decide⟩ (by decide +kernel)
theorem rec_X5_size {tl : List ZE} : z_rec (z_shC tl) wp_X5_size 4 := by
  intro as S post h
  unfold wp_X5_size at h
  split at h
  · exact ⟨_, _, _, rfl, rfl⟩
  · exact h.elim
def wp_X5_clear : ZW := fun as S k => match as with
  | [.ref 13] => k (some (.int (S.1 13 3))) (z_u S.1 13 3 0, S.2)
  | _ => False
theorem wr_X5_clear {S : ZS} {k : Option Value → ZS → Prop} : wp_X5_clear [.ref 13] S k = (k (some (.int (S.1 13 3))) (z_u S.1 13 3 0, S.2)) := rfl
def cs_X5_clear : List (Nat × ZC) := []
set_option maxRecDepth 20000 in
theorem co_X5_clear {tl : List ZE} : z_csok RX5 ({ frames := 0, cells := 0, slots := 0, locals := 0 } : Room) (z_shC tl) cs_X5_clear := z_cs0
set_option maxHeartbeats 4000000 in
set_option maxRecDepth 20000 in
theorem pu_X5_clear {tl : List ZE} : z_Pure cX5_clear 2 (z_shC tl) z_fX5 cs_X5_clear z_kcX5 z_klX5 (some .int) 0 wp_X5_clear := by
  intro as S post h
  unfold wp_X5_clear at h
  split at h
  · skip
    refine ⟨Nat.le_of_ble_eq_true rfl, fun K hK => ?_⟩
    change K 0 0 [some (.ref 13), none] [] S
    refine hK (z_in []) 60 _ _ _ _ _ (Nat.zero_le _) ?_
    simp (config := { maxSteps := 10000000 }) only [z40, z20, z10, z01, zm0, z0m, ze_s, ze_ok, zt_s, zt_t, zt_f, zl_I, zl_J, zl_R, zl_N, zl_C, zl_K, zl_M, zl_ar0, zl_ar1, zl_ar2, zl_ar3, zl_as0, zl_as1, zl_as2, zl_al, zl_gf, zl_gr, zl_pf, zl_iv, zl_ivn, zlk_n, zlk_c, ztb_n, ztb_c, zin_n, zin_1, zin_c, Int.reduceLT, decide_true, decide_false, Bool.true_and, Bool.and_true, List.length_cons, List.length_nil, Int.reduceSub, Int.reduceEq, Int.natCast_zero, zk_s, z_in_n, z_in_c, z_gt_0, z_gt_s, zst_0, zst_1, zst_s, zsl_0, zsl_1, zsl_s, zc_n, zc_i, zc_l, zc_r, zc_u, zca_n, zca_i, zca_l, zca_r, zca_u, zrt_i, zrt_z, zrt_o, z_cal_0, z_cal_s, true_and, and_true, List.nil_append, List.cons_append, Option.toList_some, Option.toList_none, Nat.reduceAdd, Nat.reduceBEq, Nat.reduceLT, Nat.reduceLeDiff, Nat.reduceSub, Int.reduceAdd, Int.reduceLE, Int.reduceToNat, Int.cast_ofNat_Int, Bool.or_true, Bool.true_or, Bool.or_false, Bool.false_or, Nat.le_refl, Nat.zero_le, or_true, true_or, or_false, false_or, not_true_eq_false, not_false_eq_true, not_false_iff, false_implies, true_implies, eq_self, zo_iconst, zo_bipush, zo_sipush, zo_lconst, zo_ldc, zo_ldc_w, zo_ldc2_w, zo_iload_n, zo_iload, zo_lload_n, zo_lload, zo_aload_n, zo_aload, zo_istore_n, zo_istore, zo_lstore_n, zo_lstore, zo_astore_n, zo_astore, zo_iinc, zo_iadd, zo_isub, zo_imul, zo_iand, zo_ior, zo_ixor, zo_ishl, zo_ishr, zo_iushr, zo_idiv, zo_irem, zo_ladd, zo_lsub, zo_lmul, zo_ldiv, zo_lrem, zo_lcmp, zo_i2l, zo_i2b, zo_i2s, zo_dup, zo_dup2, zo_aconst_null, zo_if_icmp, zo_ifCond, zo_goto, zo_ifnull, zo_ifnonnull, zo_iaload, zo_baload, zo_laload, zo_aaload, zo_iastore, zo_bastore, zo_lastore, zo_arraylength, zo_getfield, zo_putfield, zo_tableswitch, zo_lookupswitch, zo_ireturn, zo_lreturn, zo_areturn, zo_return, zo_invokestatic, zo_invokevirtual, zo_new, zo_invokespecial, zo_newarray, zo_anewarray, zo_aastore, zy_0_1, zy_0_2, zy_0_3, zy_1_1, zy_1_2, zy_2_1, zy_2_2, zy_2_3, zy_3_0, zy_4_3, zy_5_1, zy_5_2, zy_6_5, zy_6_6, zy_6_7, zy_6_8, zy_6_9, zy_6_10, zy_7_2, zy_7_6, zy_7_9, zy_7_10, zy_7_11, zy_7_12, zy_7_14, zy_7_21, zy_7_30, zq_iconst, zq_bipush, zq_sipush, zq_lconst0, zq_lconst1, zq_ldc, zq_ldc_w, zq_ldc2_w, zq_iload0, zq_iload1, zq_iload2, zq_iload3, zq_iload, zq_lload0, zq_lload1, zq_lload2, zq_lload3, zq_lload, zq_aload0, zq_aload1, zq_aload2, zq_aload3, zq_aload, zq_istore0, zq_istore1, zq_istore2, zq_istore3, zq_istore, zq_lstore0, zq_lstore1, zq_lstore2, zq_lstore3, zq_lstore, zq_astore0, zq_astore0N, zq_astore1, zq_astore1N, zq_astore2, zq_astore2N, zq_astore3, zq_astore3N, zq_astore, zq_astoreN, zq_iinc, zq_iadd, zq_isub, zq_imul, zq_iand, zq_ior, zq_ixor, zq_ishl, zq_ishr, zq_iushr, zq_idiv, zq_irem, zq_ladd, zq_lsub, zq_lmul, zq_ldiv, zq_lrem, zq_lcmp, zq_i2l, zq_i2b, zq_i2s, zq_dup_i, zq_dup_r, zq_dup2, zq_null, zq_icmp_eq, zq_if_eq, zq_icmp_ne, zq_if_ne, zq_icmp_lt, zq_if_lt, zq_icmp_ge, zq_if_ge, zq_icmp_gt, zq_if_gt, zq_icmp_le, zq_if_le, zq_goto, zq_ifnull_r, zq_ifnull_n, zq_ifnonnull_r, zq_ifnonnull_n, zq_iaload, zq_baload, zq_laload, zq_aaload, zq_iastore, zq_bastore, zq_lastore, zq_alen, zq_getf, zq_put, zq_tsw, zq_lsw, zq_ireturn, zq_lreturn, zq_areturn, zq_areturnN, zq_return, zq_invokestatic, zq_invokevirtual, zq_new, zq_invokespecial, zq_newarray, zq_anewarray, zq_aastore, zi_m1, zi_0, zi_1, zi_2, zi_3, zi_4, zi_5, zi_6, zi_8, zi_16, zb_m10, zb_m4, zb_m3, zb_m2, zb_6, zb_7, zb_8, zb_9, zb_10, zb_16, zb_20, zb_23, zb_30, zb_32, zb_35, zb_46, zb_48, zb_56, zb_57, zb_59, zb_63, zb_70, zb_98, zb_99, zb_100, zb_111, zb_112, zs_192, zs_255, zs_256, zs_511, zs_512, zs_12345, zf_X5_11_13, zf_X5_15_13, zf_X5_18_13, zf_X5_21_13, za_C_2, za_C_3, za_C_4, za_C_5, za_C_6, za_C_8, za_C_9, za_C_10, za_C_12, za_C_14, za_C_15, za_C_16, za_C_17, za_C_22, za_C_23, za_C_24, za_C_25, dX5_clear_0, dX5_clear_1, dX5_clear_4, dX5_clear_5, dX5_clear_6, dX5_clear_7, dX5_clear_10, dX5_clear_11]
    exact h
  · exact h.elim
theorem ok_X5_clear {tl : List ZE} : z_Ok (z_shC tl) yX5_clear cX5_clear 2 (some .int) ({ frames := 0, cells := 0, slots := 0, locals := 0 } : Room) 0 wp_X5_clear := z_Ok_of pu_X5_clear z_fX5_ok z_kX5_ok co_X5_clear ⟨by decide, by decide⟩ (by decide +kernel)
theorem rec_X5_clear {tl : List ZE} : z_rec (z_shC tl) wp_X5_clear 4 := by
  intro as S post h
  unfold wp_X5_clear at h
  split at h
  · exact ⟨_, _, _, rfl, rfl⟩
  · exact h.elim
def wp_X5_append : ZW := fun as S k => match as with
  | [.ref 13, .int a, .int b, .int c] => ∃ (n : Nat) (sd : Nat → Nat × Int32 × Nat) (u w : Nat), a = nI u ∧ c = nI w ∧ u ≤ 2 ∧ w ≤ 1 ∧ ab_sai n sd ∧ c_sai n sd S ∧ (n = 8 → k (some (.int (-4))) S) ∧ (n < 8 → ∀ S', ab_sai (n + 1) (va_up sd n (u, b, w)) → c_sai (n + 1) (va_up sd n (u, b, w)) S' → c_frS S S' → k (some (.int (nI (n + 1)))) S')
  | _ => False
theorem wr_X5_append {a : Int32} {b : Int32} {c : Int32} {S : ZS} {k : Option Value → ZS → Prop} : wp_X5_append [.ref 13, .int a, .int b, .int c] S k = (∃ (n : Nat) (sd : Nat → Nat × Int32 × Nat) (u w : Nat), a = nI u ∧ c = nI w ∧ u ≤ 2 ∧ w ≤ 1 ∧ ab_sai n sd ∧ c_sai n sd S ∧ (n = 8 → k (some (.int (-4))) S) ∧ (n < 8 → ∀ S', ab_sai (n + 1) (va_up sd n (u, b, w)) → c_sai (n + 1) (va_up sd n (u, b, w)) S' → c_frS S S' → k (some (.int (nI (n + 1)))) S')) := rfl
def cs_X5_append : List (Nat × ZC) := []
set_option maxRecDepth 20000 in
theorem co_X5_append {tl : List ZE} : z_csok RX5 ({ frames := 0, cells := 0, slots := 0, locals := 0 } : Room) (z_shC tl) cs_X5_append := z_cs0
set_option maxHeartbeats 4000000 in
set_option maxRecDepth 20000 in
theorem pu_X5_append {tl : List ZE} : z_Pure cX5_append 4 (z_shC tl) z_fX5 cs_X5_append z_kcX5 z_klX5 (some .int) 0 wp_X5_append := by
  intro as S post h
  unfold wp_X5_append at h
  split at h
  · rename_i a b c
    refine ⟨Nat.le_of_ble_eq_true rfl, fun K hK => ?_⟩
    change K 0 0 [some (.ref 13), some (.int a), some (.int b), some (.int c)] [] S
    obtain ⟨n, sd, u, w, rfl, rfl, hu, hw, ⟨hn, hs⟩, ⟨h1, h2⟩, hk1, hk2⟩ := h
    refine hK (z_in []) 80 _ _ _ _ _ (Nat.zero_le _) ?_
    simp (config := { maxSteps := 10000000 }) only [z40, z20, z10, z01, zm0, z0m, ze_s, ze_ok, zt_s, zt_t, zt_f, zl_I, zl_J, zl_R, zl_N, zl_C, zl_K, zl_M, zl_ar0, zl_ar1, zl_ar2, zl_ar3, zl_as0, zl_as1, zl_as2, zl_al, zl_gf, zl_gr, zl_pf, zl_iv, zl_ivn, zlk_n, zlk_c, ztb_n, ztb_c, zin_n, zin_1, zin_c, Int.reduceLT, decide_true, decide_false, Bool.true_and, Bool.and_true, List.length_cons, List.length_nil, Int.reduceSub, Int.reduceEq, Int.natCast_zero, zk_s, z_in_n, z_in_c, z_gt_0, z_gt_s, zst_0, zst_1, zst_s, zsl_0, zsl_1, zsl_s, zc_n, zc_i, zc_l, zc_r, zc_u, zca_n, zca_i, zca_l, zca_r, zca_u, zrt_i, zrt_z, zrt_o, z_cal_0, z_cal_s, true_and, and_true, List.nil_append, List.cons_append, Option.toList_some, Option.toList_none, Nat.reduceAdd, Nat.reduceBEq, Nat.reduceLT, Nat.reduceLeDiff, Nat.reduceSub, Int.reduceAdd, Int.reduceLE, Int.reduceToNat, Int.cast_ofNat_Int, Bool.or_true, Bool.true_or, Bool.or_false, Bool.false_or, Nat.le_refl, Nat.zero_le, or_true, true_or, or_false, false_or, not_true_eq_false, not_false_eq_true, not_false_iff, false_implies, true_implies, eq_self, zo_iconst, zo_bipush, zo_sipush, zo_lconst, zo_ldc, zo_ldc_w, zo_ldc2_w, zo_iload_n, zo_iload, zo_lload_n, zo_lload, zo_aload_n, zo_aload, zo_istore_n, zo_istore, zo_lstore_n, zo_lstore, zo_astore_n, zo_astore, zo_iinc, zo_iadd, zo_isub, zo_imul, zo_iand, zo_ior, zo_ixor, zo_ishl, zo_ishr, zo_iushr, zo_idiv, zo_irem, zo_ladd, zo_lsub, zo_lmul, zo_ldiv, zo_lrem, zo_lcmp, zo_i2l, zo_i2b, zo_i2s, zo_dup, zo_dup2, zo_aconst_null, zo_if_icmp, zo_ifCond, zo_goto, zo_ifnull, zo_ifnonnull, zo_iaload, zo_baload, zo_laload, zo_aaload, zo_iastore, zo_bastore, zo_lastore, zo_arraylength, zo_getfield, zo_putfield, zo_tableswitch, zo_lookupswitch, zo_ireturn, zo_lreturn, zo_areturn, zo_return, zo_invokestatic, zo_invokevirtual, zo_new, zo_invokespecial, zo_newarray, zo_anewarray, zo_aastore, zy_0_1, zy_0_2, zy_0_3, zy_1_1, zy_1_2, zy_2_1, zy_2_2, zy_2_3, zy_3_0, zy_4_3, zy_5_1, zy_5_2, zy_6_5, zy_6_6, zy_6_7, zy_6_8, zy_6_9, zy_6_10, zy_7_2, zy_7_6, zy_7_9, zy_7_10, zy_7_11, zy_7_12, zy_7_14, zy_7_21, zy_7_30, zq_iconst, zq_bipush, zq_sipush, zq_lconst0, zq_lconst1, zq_ldc, zq_ldc_w, zq_ldc2_w, zq_iload0, zq_iload1, zq_iload2, zq_iload3, zq_iload, zq_lload0, zq_lload1, zq_lload2, zq_lload3, zq_lload, zq_aload0, zq_aload1, zq_aload2, zq_aload3, zq_aload, zq_istore0, zq_istore1, zq_istore2, zq_istore3, zq_istore, zq_lstore0, zq_lstore1, zq_lstore2, zq_lstore3, zq_lstore, zq_astore0, zq_astore0N, zq_astore1, zq_astore1N, zq_astore2, zq_astore2N, zq_astore3, zq_astore3N, zq_astore, zq_astoreN, zq_iinc, zq_iadd, zq_isub, zq_imul, zq_iand, zq_ior, zq_ixor, zq_ishl, zq_ishr, zq_iushr, zq_idiv, zq_irem, zq_ladd, zq_lsub, zq_lmul, zq_ldiv, zq_lrem, zq_lcmp, zq_i2l, zq_i2b, zq_i2s, zq_dup_i, zq_dup_r, zq_dup2, zq_null, zq_icmp_eq, zq_if_eq, zq_icmp_ne, zq_if_ne, zq_icmp_lt, zq_if_lt, zq_icmp_ge, zq_if_ge, zq_icmp_gt, zq_if_gt, zq_icmp_le, zq_if_le, zq_goto, zq_ifnull_r, zq_ifnull_n, zq_ifnonnull_r, zq_ifnonnull_n, zq_iaload, zq_baload, zq_laload, zq_aaload, zq_iastore, zq_bastore, zq_lastore, zq_alen, zq_getf, zq_put, zq_tsw, zq_lsw, zq_ireturn, zq_lreturn, zq_areturn, zq_areturnN, zq_return, zq_invokestatic, zq_invokevirtual, zq_new, zq_invokespecial, zq_newarray, zq_anewarray, zq_aastore, zi_m1, zi_0, zi_1, zi_2, zi_3, zi_4, zi_5, zi_6, zi_8, zi_16, zb_m10, zb_m4, zb_m3, zb_m2, zb_6, zb_7, zb_8, zb_9, zb_10, zb_16, zb_20, zb_23, zb_30, zb_32, zb_35, zb_46, zb_48, zb_56, zb_57, zb_59, zb_63, zb_70, zb_98, zb_99, zb_100, zb_111, zb_112, zs_192, zs_255, zs_256, zs_511, zs_512, zs_12345, zf_X5_11_13, zf_X5_15_13, zf_X5_18_13, zf_X5_21_13, za_C_2, za_C_3, za_C_4, za_C_5, za_C_6, za_C_8, za_C_9, za_C_10, za_C_12, za_C_14, za_C_15, za_C_16, za_C_17, za_C_22, za_C_23, za_C_24, za_C_25, dX5_append_0, dX5_append_1, dX5_append_4, dX5_append_6, dX5_append_9, dX5_append_11, dX5_append_12, dX5_append_13, dX5_append_16, dX5_append_17, dX5_append_20, dX5_append_21, dX5_append_22, dX5_append_23, dX5_append_26, dX5_append_27, dX5_append_30, dX5_append_31, dX5_append_32, dX5_append_33, dX5_append_36, dX5_append_37, dX5_append_40, dX5_append_41, dX5_append_42, dX5_append_43, dX5_append_44, dX5_append_47, dX5_append_48, dX5_append_49, dX5_append_52, dX5_append_53, dX5_append_56]
    simp only [h1, n_ofnat, true_and, n_cl (show n < 2147483648 by omega), z_rd, Nat.reduceEqDiff, false_and, if_false, and_self, if_true, and_true, n_geL (n := n) (M := 8) 8 rfl (by omega) (by omega), n_leL (n := n) (M := 8) 8 rfl (by omega) (by omega), n_ltL (n := n) (M := 8) 8 rfl (by omega) (by omega), n_gtL (n := n) (M := 8) 8 rfl (by omega) (by omega), n_eqL (n := n) (M := 8) 8 rfl (by omega) (by omega), nI_1]
    refine ⟨fun c => ⟨n_in c (by omega), n_in c (by omega), n_in c (by omega), hk2 c _ ⟨by omega, fun i hi => ?_⟩ ⟨?_, fun i hi => ?_⟩ ⟨fun a ha => ?_, rfl⟩⟩, fun c => hk1 (by omega)⟩
    · by_cases e : i = n
      · subst e; rw [va_up_self]; exact ⟨hu, hw⟩
      · rw [va_up_ne _ _ e]; exact hs i (by omega)
    · simp [z_rd]
    · simp only [z_rd, Nat.reduceEqDiff, false_and, if_false, true_and]
      by_cases e : i = n
      · subst e; simp [va_up_self]
      · simp only [if_neg e, va_up_ne _ _ e]; exact h2 i (by omega)
    · dsimp only
      rw [z_u_o (by omega), z_u_o (by omega), z_u_o (by omega), z_u_o (by omega)]
  · exact h.elim
theorem ok_X5_append {tl : List ZE} : z_Ok (z_shC tl) yX5_append cX5_append 4 (some .int) ({ frames := 0, cells := 0, slots := 0, locals := 0 } : Room) 0 wp_X5_append := z_Ok_of pu_X5_append z_fX5_ok z_kX5_ok co_X5_append ⟨by decide, by decide⟩ (by decide +kernel)
theorem rec_X5_append {tl : List ZE} : z_rec (z_shC tl) wp_X5_append 4 := by
  intro as S post h
  unfold wp_X5_append at h
  split at h
  · exact ⟨_, _, _, rfl, rfl⟩
  · exact h.elim
/-- what is said of a book holds of it -/
def ab_so (x : ZText) (b u : Nat) (v : Int32) : Bool := match u with
  | 0 => decide (v ≤ nI (ab_worth x b))
  | 1 => decide (nI (ab_kind x b) = v)
  | _ => decide (ab_lean32 x b = v)
def ab_allN (x : ZText) (b : Nat) (sd : Nat → Nat × Int32 × Nat) : Nat → Bool
  | 0 => true
  | n + 1 => ab_allN x b sd n && (ab_so x b (sd n).1 (sd n).2.1 == ((sd n).2.2 == 1))
theorem ab_allN_s {x : ZText} {b : Nat} {sd : Nat → Nat × Int32 × Nat} {n : Nat} : ab_allN x b sd (n + 1) = (ab_allN x b sd n && (ab_so x b (sd n).1 (sd n).2.1 == ((sd n).2.2 == 1))) := rfl
def wp_X5_isSo : ZW := fun as S k => match as with
  | [.ref 1, .int b, .int u, .int v] => ∃ (x : ZText) (j w : Nat), b = nI j ∧ u = nI w ∧ w ≤ 2 ∧ x.1 ≤ 35 ∧ j < ab_num 0 x ∧ c_books x S ∧ (ab_so x j w v = true → k (some (.int 1)) S) ∧ (ab_so x j w v = false → k (some (.int 0)) S)
  | _ => False
theorem wr_X5_isSo {b : Int32} {u : Int32} {v : Int32} {S : ZS} {k : Option Value → ZS → Prop} : wp_X5_isSo [.ref 1, .int b, .int u, .int v] S k = (∃ (x : ZText) (j w : Nat), b = nI j ∧ u = nI w ∧ w ≤ 2 ∧ x.1 ≤ 35 ∧ j < ab_num 0 x ∧ c_books x S ∧ (ab_so x j w v = true → k (some (.int 1)) S) ∧ (ab_so x j w v = false → k (some (.int 0)) S)) := rfl
def cs_X5_isSo : List (Nat × ZC) := [(29, (2, 0, false, wp_X0_worth)), (35, (2, 0, false, wp_X0_kind)), (38, (2, 0, false, wp_X0_leansOn))]
theorem cr_X5_isSo_29 : cs_X5_isSo.lookup 29 = some (2, 0, false, wp_X0_worth) := rfl
theorem cr_X5_isSo_35 : cs_X5_isSo.lookup 35 = some (2, 0, false, wp_X0_kind) := rfl
theorem cr_X5_isSo_38 : cs_X5_isSo.lookup 38 = some (2, 0, false, wp_X0_leansOn) := rfl
set_option maxRecDepth 20000 in
theorem co_X5_isSo {tl : List ZE} : z_csok RX5 ({ frames := 2, cells := 0, slots := 0, locals := 43 } : Room) (z_shC tl) cs_X5_isSo := z_cs2 (z_csV ok_X0_worth rec_X0_worth rfl (z_g 533 (by decide +kernel) rfl) (z_g 298 (by decide +kernel) rfl) (z_g 299 (by decide +kernel) rfl) (z_g 300 (by decide +kernel) rfl) (z_g 46 (by decide +kernel) rfl) rfl rfl (by decide +kernel) ⟨by decide, by decide⟩)
  (z_cs2 (z_csV ok_X0_kind rec_X0_kind rfl (z_g 534 (by decide +kernel) rfl) (z_g 302 (by decide +kernel) rfl) (z_g 303 (by decide +kernel) rfl) (z_g 304 (by decide +kernel) rfl) (z_g 46 (by decide +kernel) rfl) rfl rfl (by decide +kernel) ⟨by decide, by decide⟩)
  (z_cs2 (z_csV ok_X0_leansOn rec_X0_leansOn rfl (z_g 535 (by decide +kernel) rfl) (z_g 306 (by decide +kernel) rfl) (z_g 307 (by decide +kernel) rfl) (z_g 308 (by decide +kernel) rfl) (z_g 46 (by decide +kernel) rfl) rfl rfl (by decide +kernel) ⟨by decide, by decide⟩)
  (z_cs0)))
set_option maxHeartbeats 4000000 in
set_option maxRecDepth 20000 in
theorem pu_X5_isSo {tl : List ZE} : z_Pure cX5_isSo 4 (z_shC tl) z_fX5 cs_X5_isSo z_kcX5 z_klX5 (some .boolean) 0 wp_X5_isSo := by
  intro as S post h
  unfold wp_X5_isSo at h
  split at h
  · rename_i b u v
    refine ⟨Nat.le_of_ble_eq_true rfl, fun K hK => ?_⟩
    change K 0 0 [some (.ref 1), some (.int b), some (.int u), some (.int v)] [] S
    obtain ⟨x, j, w, rfl, rfl, hw, hx, hj, hb, h1, h2⟩ := h
    refine hK (z_in []) 80 _ _ _ _ _ (Nat.zero_le _) ?_
    simp (config := { maxSteps := 10000000 }) only [z40, z20, z10, z01, zm0, z0m, ze_s, ze_ok, zt_s, zt_t, zt_f, zl_I, zl_J, zl_R, zl_N, zl_C, zl_K, zl_M, zl_ar0, zl_ar1, zl_ar2, zl_ar3, zl_as0, zl_as1, zl_as2, zl_al, zl_gf, zl_gr, zl_pf, zl_iv, zl_ivn, zlk_n, zlk_c, ztb_n, ztb_c, zin_n, zin_1, zin_c, Int.reduceLT, decide_true, decide_false, Bool.true_and, Bool.and_true, List.length_cons, List.length_nil, Int.reduceSub, Int.reduceEq, Int.natCast_zero, zk_s, z_in_n, z_in_c, z_gt_0, z_gt_s, zst_0, zst_1, zst_s, zsl_0, zsl_1, zsl_s, zc_n, zc_i, zc_l, zc_r, zc_u, zca_n, zca_i, zca_l, zca_r, zca_u, zrt_i, zrt_z, zrt_o, z_cal_0, z_cal_s, true_and, and_true, List.nil_append, List.cons_append, Option.toList_some, Option.toList_none, Nat.reduceAdd, Nat.reduceBEq, Nat.reduceLT, Nat.reduceLeDiff, Nat.reduceSub, Int.reduceAdd, Int.reduceLE, Int.reduceToNat, Int.cast_ofNat_Int, Bool.or_true, Bool.true_or, Bool.or_false, Bool.false_or, Nat.le_refl, Nat.zero_le, or_true, true_or, or_false, false_or, not_true_eq_false, not_false_eq_true, not_false_iff, false_implies, true_implies, eq_self, zo_iconst, zo_bipush, zo_sipush, zo_lconst, zo_ldc, zo_ldc_w, zo_ldc2_w, zo_iload_n, zo_iload, zo_lload_n, zo_lload, zo_aload_n, zo_aload, zo_istore_n, zo_istore, zo_lstore_n, zo_lstore, zo_astore_n, zo_astore, zo_iinc, zo_iadd, zo_isub, zo_imul, zo_iand, zo_ior, zo_ixor, zo_ishl, zo_ishr, zo_iushr, zo_idiv, zo_irem, zo_ladd, zo_lsub, zo_lmul, zo_ldiv, zo_lrem, zo_lcmp, zo_i2l, zo_i2b, zo_i2s, zo_dup, zo_dup2, zo_aconst_null, zo_if_icmp, zo_ifCond, zo_goto, zo_ifnull, zo_ifnonnull, zo_iaload, zo_baload, zo_laload, zo_aaload, zo_iastore, zo_bastore, zo_lastore, zo_arraylength, zo_getfield, zo_putfield, zo_tableswitch, zo_lookupswitch, zo_ireturn, zo_lreturn, zo_areturn, zo_return, zo_invokestatic, zo_invokevirtual, zo_new, zo_invokespecial, zo_newarray, zo_anewarray, zo_aastore, zy_0_1, zy_0_2, zy_0_3, zy_1_1, zy_1_2, zy_2_1, zy_2_2, zy_2_3, zy_3_0, zy_4_3, zy_5_1, zy_5_2, zy_6_5, zy_6_6, zy_6_7, zy_6_8, zy_6_9, zy_6_10, zy_7_2, zy_7_6, zy_7_9, zy_7_10, zy_7_11, zy_7_12, zy_7_14, zy_7_21, zy_7_30, zq_iconst, zq_bipush, zq_sipush, zq_lconst0, zq_lconst1, zq_ldc, zq_ldc_w, zq_ldc2_w, zq_iload0, zq_iload1, zq_iload2, zq_iload3, zq_iload, zq_lload0, zq_lload1, zq_lload2, zq_lload3, zq_lload, zq_aload0, zq_aload1, zq_aload2, zq_aload3, zq_aload, zq_istore0, zq_istore1, zq_istore2, zq_istore3, zq_istore, zq_lstore0, zq_lstore1, zq_lstore2, zq_lstore3, zq_lstore, zq_astore0, zq_astore0N, zq_astore1, zq_astore1N, zq_astore2, zq_astore2N, zq_astore3, zq_astore3N, zq_astore, zq_astoreN, zq_iinc, zq_iadd, zq_isub, zq_imul, zq_iand, zq_ior, zq_ixor, zq_ishl, zq_ishr, zq_iushr, zq_idiv, zq_irem, zq_ladd, zq_lsub, zq_lmul, zq_ldiv, zq_lrem, zq_lcmp, zq_i2l, zq_i2b, zq_i2s, zq_dup_i, zq_dup_r, zq_dup2, zq_null, zq_icmp_eq, zq_if_eq, zq_icmp_ne, zq_if_ne, zq_icmp_lt, zq_if_lt, zq_icmp_ge, zq_if_ge, zq_icmp_gt, zq_if_gt, zq_icmp_le, zq_if_le, zq_goto, zq_ifnull_r, zq_ifnull_n, zq_ifnonnull_r, zq_ifnonnull_n, zq_iaload, zq_baload, zq_laload, zq_aaload, zq_iastore, zq_bastore, zq_lastore, zq_alen, zq_getf, zq_put, zq_tsw, zq_lsw, zq_ireturn, zq_lreturn, zq_areturn, zq_areturnN, zq_return, zq_invokestatic, zq_invokevirtual, zq_new, zq_invokespecial, zq_newarray, zq_anewarray, zq_aastore, zi_m1, zi_0, zi_1, zi_2, zi_3, zi_4, zi_5, zi_6, zi_8, zi_16, zb_m10, zb_m4, zb_m3, zb_m2, zb_6, zb_7, zb_8, zb_9, zb_10, zb_16, zb_20, zb_23, zb_30, zb_32, zb_35, zb_46, zb_48, zb_56, zb_57, zb_59, zb_63, zb_70, zb_98, zb_99, zb_100, zb_111, zb_112, zs_192, zs_255, zs_256, zs_511, zs_512, zs_12345, zf_X5_11_13, zf_X5_15_13, zf_X5_18_13, zf_X5_21_13, za_C_2, za_C_3, za_C_4, za_C_5, za_C_6, za_C_8, za_C_9, za_C_10, za_C_12, za_C_14, za_C_15, za_C_16, za_C_17, za_C_22, za_C_23, za_C_24, za_C_25, dX5_isSo_0, dX5_isSo_1, dX5_isSo_28, dX5_isSo_29, dX5_isSo_30, dX5_isSo_33, dX5_isSo_34, dX5_isSo_37, dX5_isSo_38, dX5_isSo_41, dX5_isSo_42, dX5_isSo_43, dX5_isSo_44, dX5_isSo_45, dX5_isSo_48, dX5_isSo_49, dX5_isSo_52, dX5_isSo_53, dX5_isSo_56, dX5_isSo_57, dX5_isSo_58, dX5_isSo_59, dX5_isSo_60, dX5_isSo_63, dX5_isSo_64, dX5_isSo_67, dX5_isSo_68, dX5_isSo_71, dX5_isSo_72, cr_X5_isSo_29, cr_X5_isSo_35, cr_X5_isSo_38, wr_X0_worth, wr_X0_kind, wr_X0_leansOn]
    simp only [n_ti (show w < 2147483648 by omega)]
    have nlt : ∀ a b : Int32, ¬ a < b ↔ b ≤ a := fun a b => by simp only [i_lt, i_le]; omega
    refine ⟨fun c => ⟨x, j, rfl, hx, hj, hb, fun d => h2 ?_, fun d => h1 ?_⟩, fun c => ⟨fun c1 => ⟨x, j, rfl, hx, hj, hb, fun d => h1 ?_, fun d => h2 ?_⟩, fun c1 => ⟨x, j, rfl, hx, hj, hb, fun d => h1 ?_, fun d => h2 ?_⟩⟩⟩
    · obtain rfl : w = 0 := by omega
      simp only [ab_so, decide_eq_false_iff_not]; simp only [i_lt, i_le] at d ⊢; omega
    · obtain rfl : w = 0 := by omega
      simp only [ab_so, decide_eq_true_eq]; exact (nlt _ _).mp d
    · obtain rfl : w = 1 := by omega
      simp only [ab_so, decide_eq_true_eq]; exact d
    · obtain rfl : w = 1 := by omega
      simp only [ab_so, decide_eq_false_iff_not]; exact d
    · obtain rfl : w = 2 := by omega
      simp only [ab_so, decide_eq_true_eq]; exact d
    · obtain rfl : w = 2 := by omega
      simp only [ab_so, decide_eq_false_iff_not]; exact d
  · exact h.elim
theorem ok_X5_isSo {tl : List ZE} : z_Ok (z_shC tl) yX5_isSo cX5_isSo 4 (some .boolean) ({ frames := 2, cells := 0, slots := 0, locals := 43 } : Room) 0 wp_X5_isSo := z_Ok_of pu_X5_isSo z_fX5_ok z_kX5_ok co_X5_isSo ⟨by decide, by decide⟩ (by decide +kernel)
def wp_X5_allow : ZW := fun as S k => match as with
  | [.ref 13, .ref 1, .int b] => ∃ (x : ZText) (j n : Nat) (sd : Nat → Nat × Int32 × Nat), b = nI j ∧ x.1 ≤ 35 ∧ j < ab_num 0 x ∧ c_books x S ∧ ab_sai n sd ∧ c_sai n sd S ∧ (ab_allN x j sd n = true → k (some (.int 1)) S) ∧ (ab_allN x j sd n = false → k (some (.int 0)) S)
  | _ => False
theorem wr_X5_allow {b : Int32} {S : ZS} {k : Option Value → ZS → Prop} : wp_X5_allow [.ref 13, .ref 1, .int b] S k = (∃ (x : ZText) (j n : Nat) (sd : Nat → Nat × Int32 × Nat), b = nI j ∧ x.1 ≤ 35 ∧ j < ab_num 0 x ∧ c_books x S ∧ ab_sai n sd ∧ c_sai n sd S ∧ (ab_allN x j sd n = true → k (some (.int 1)) S) ∧ (ab_allN x j sd n = false → k (some (.int 0)) S)) := rfl
def cs_X5_allow : List (Nat × ZC) := [(25, (4, 0, true, wp_X5_isSo))]
theorem cr_X5_allow_25 : cs_X5_allow.lookup 25 = some (4, 0, true, wp_X5_isSo) := rfl
set_option maxRecDepth 20000 in
theorem co_X5_allow {tl : List ZE} : z_csok RX5 ({ frames := 3, cells := 0, slots := 0, locals := 66 } : Room) (z_shC tl) cs_X5_allow := z_cs2 (z_csS ok_X5_isSo (z_g 530 (by decide +kernel) rfl) (z_g 531 (by decide +kernel) rfl) (z_g 49 (by decide +kernel) rfl) (z_g 532 (by decide +kernel) rfl) rfl rfl (by decide +kernel) ⟨by decide, by decide⟩)
  (z_cs0)
set_option maxHeartbeats 4000000 in
set_option maxRecDepth 20000 in
theorem pu_X5_allow {tl : List ZE} : z_Pure cX5_allow 5 (z_shC tl) z_fX5 cs_X5_allow z_kcX5 z_klX5 (some .boolean) 0 wp_X5_allow := by
  intro as S post h
  unfold wp_X5_allow at h
  split at h
  · rename_i b
    refine ⟨Nat.le_of_ble_eq_true rfl, fun K hK => ?_⟩
    change K 0 0 [some (.ref 13), some (.ref 1), some (.int b), none, none] [] S
    obtain ⟨x, j, n, sd, rfl, hx, hj, hb, ⟨hn, hs⟩, ⟨g1, g2⟩, h1, h2⟩ := h
    have stop : ∀ m i, i + m = n → ab_allN x j sd i = false → ab_allN x j sd n = false := by
      intro m
      induction m with
      | zero => intro i hi h; rw [← hi]; exact h
      | succ m ih => intro i hi h; exact ih (i + 1) (by omega) (by unfold ab_allN; rw [h]; rfl)
    have key : ∀ (m i : Nat) (c4 : Option Value), i + m = n → ab_allN x j sd i = true → K 0 2 [some (.ref 13), some (.ref 1), some (.int (nI j)), some (.int (nI i)), c4] [] S := by
      intro m
      induction m with
      | zero =>
        intro i c4 hi hA
        refine hK (z_in [2]) 80 _ _ _ _ _ (Nat.zero_le _) ?_
        simp (config := { maxSteps := 10000000 }) only [z40, z20, z10, z01, zm0, z0m, ze_s, ze_ok, zt_s, zt_t, zt_f, zl_I, zl_J, zl_R, zl_N, zl_C, zl_K, zl_M, zl_ar0, zl_ar1, zl_ar2, zl_ar3, zl_as0, zl_as1, zl_as2, zl_al, zl_gf, zl_gr, zl_pf, zl_iv, zl_ivn, zlk_n, zlk_c, ztb_n, ztb_c, zin_n, zin_1, zin_c, Int.reduceLT, decide_true, decide_false, Bool.true_and, Bool.and_true, List.length_cons, List.length_nil, Int.reduceSub, Int.reduceEq, Int.natCast_zero, zk_s, z_in_n, z_in_c, z_gt_0, z_gt_s, zst_0, zst_1, zst_s, zsl_0, zsl_1, zsl_s, zc_n, zc_i, zc_l, zc_r, zc_u, zca_n, zca_i, zca_l, zca_r, zca_u, zrt_i, zrt_z, zrt_o, z_cal_0, z_cal_s, true_and, and_true, List.nil_append, List.cons_append, Option.toList_some, Option.toList_none, Nat.reduceAdd, Nat.reduceBEq, Nat.reduceLT, Nat.reduceLeDiff, Nat.reduceSub, Int.reduceAdd, Int.reduceLE, Int.reduceToNat, Int.cast_ofNat_Int, Bool.or_true, Bool.true_or, Bool.or_false, Bool.false_or, Nat.le_refl, Nat.zero_le, or_true, true_or, or_false, false_or, not_true_eq_false, not_false_eq_true, not_false_iff, false_implies, true_implies, eq_self, zo_iconst, zo_bipush, zo_sipush, zo_lconst, zo_ldc, zo_ldc_w, zo_ldc2_w, zo_iload_n, zo_iload, zo_lload_n, zo_lload, zo_aload_n, zo_aload, zo_istore_n, zo_istore, zo_lstore_n, zo_lstore, zo_astore_n, zo_astore, zo_iinc, zo_iadd, zo_isub, zo_imul, zo_iand, zo_ior, zo_ixor, zo_ishl, zo_ishr, zo_iushr, zo_idiv, zo_irem, zo_ladd, zo_lsub, zo_lmul, zo_ldiv, zo_lrem, zo_lcmp, zo_i2l, zo_i2b, zo_i2s, zo_dup, zo_dup2, zo_aconst_null, zo_if_icmp, zo_ifCond, zo_goto, zo_ifnull, zo_ifnonnull, zo_iaload, zo_baload, zo_laload, zo_aaload, zo_iastore, zo_bastore, zo_lastore, zo_arraylength, zo_getfield, zo_putfield, zo_tableswitch, zo_lookupswitch, zo_ireturn, zo_lreturn, zo_areturn, zo_return, zo_invokestatic, zo_invokevirtual, zo_new, zo_invokespecial, zo_newarray, zo_anewarray, zo_aastore, zy_0_1, zy_0_2, zy_0_3, zy_1_1, zy_1_2, zy_2_1, zy_2_2, zy_2_3, zy_3_0, zy_4_3, zy_5_1, zy_5_2, zy_6_5, zy_6_6, zy_6_7, zy_6_8, zy_6_9, zy_6_10, zy_7_2, zy_7_6, zy_7_9, zy_7_10, zy_7_11, zy_7_12, zy_7_14, zy_7_21, zy_7_30, zq_iconst, zq_bipush, zq_sipush, zq_lconst0, zq_lconst1, zq_ldc, zq_ldc_w, zq_ldc2_w, zq_iload0, zq_iload1, zq_iload2, zq_iload3, zq_iload, zq_lload0, zq_lload1, zq_lload2, zq_lload3, zq_lload, zq_aload0, zq_aload1, zq_aload2, zq_aload3, zq_aload, zq_istore0, zq_istore1, zq_istore2, zq_istore3, zq_istore, zq_lstore0, zq_lstore1, zq_lstore2, zq_lstore3, zq_lstore, zq_astore0, zq_astore0N, zq_astore1, zq_astore1N, zq_astore2, zq_astore2N, zq_astore3, zq_astore3N, zq_astore, zq_astoreN, zq_iinc, zq_iadd, zq_isub, zq_imul, zq_iand, zq_ior, zq_ixor, zq_ishl, zq_ishr, zq_iushr, zq_idiv, zq_irem, zq_ladd, zq_lsub, zq_lmul, zq_ldiv, zq_lrem, zq_lcmp, zq_i2l, zq_i2b, zq_i2s, zq_dup_i, zq_dup_r, zq_dup2, zq_null, zq_icmp_eq, zq_if_eq, zq_icmp_ne, zq_if_ne, zq_icmp_lt, zq_if_lt, zq_icmp_ge, zq_if_ge, zq_icmp_gt, zq_if_gt, zq_icmp_le, zq_if_le, zq_goto, zq_ifnull_r, zq_ifnull_n, zq_ifnonnull_r, zq_ifnonnull_n, zq_iaload, zq_baload, zq_laload, zq_aaload, zq_iastore, zq_bastore, zq_lastore, zq_alen, zq_getf, zq_put, zq_tsw, zq_lsw, zq_ireturn, zq_lreturn, zq_areturn, zq_areturnN, zq_return, zq_invokestatic, zq_invokevirtual, zq_new, zq_invokespecial, zq_newarray, zq_anewarray, zq_aastore, zi_m1, zi_0, zi_1, zi_2, zi_3, zi_4, zi_5, zi_6, zi_8, zi_16, zb_m10, zb_m4, zb_m3, zb_m2, zb_6, zb_7, zb_8, zb_9, zb_10, zb_16, zb_20, zb_23, zb_30, zb_32, zb_35, zb_46, zb_48, zb_56, zb_57, zb_59, zb_63, zb_70, zb_98, zb_99, zb_100, zb_111, zb_112, zs_192, zs_255, zs_256, zs_511, zs_512, zs_12345, zf_X5_11_13, zf_X5_15_13, zf_X5_18_13, zf_X5_21_13, za_C_2, za_C_3, za_C_4, za_C_5, za_C_6, za_C_8, za_C_9, za_C_10, za_C_12, za_C_14, za_C_15, za_C_16, za_C_17, za_C_22, za_C_23, za_C_24, za_C_25, dX5_allow_0, dX5_allow_1, dX5_allow_2, dX5_allow_3, dX5_allow_4, dX5_allow_7, dX5_allow_10, dX5_allow_11, dX5_allow_13, dX5_allow_16, dX5_allow_17, dX5_allow_18, dX5_allow_19, dX5_allow_22, dX5_allow_23, dX5_allow_24, dX5_allow_25, dX5_allow_28, dX5_allow_29, dX5_allow_30, dX5_allow_33, dX5_allow_35, dX5_allow_37, dX5_allow_38, dX5_allow_41, dX5_allow_42, dX5_allow_43, dX5_allow_44, dX5_allow_47, dX5_allow_48, dX5_allow_51, dX5_allow_52, dX5_allow_55, dX5_allow_56, dX5_allow_57, dX5_allow_60, dX5_allow_63, dX5_allow_64, cr_X5_allow_25, wr_X5_isSo]
        simp only [g1, n_le (a := i) (b := n) (by omega) (by omega), n_lt (a := i) (b := n) (by omega) (by omega), n_eq (a := i) (b := n) (by omega) (by omega), n_le (a := n) (b := i) (by omega) (by omega), n_lt (a := n) (b := i) (by omega) (by omega), n_eq (a := n) (b := i) (by omega) (by omega)]
        obtain rfl : i = n := by omega
        exact ⟨fun _ => h1 hA, fun c => absurd (Nat.le_refl _) c⟩
      | succ m ih =>
        intro i c4 hi hA
        refine hK (z_in [2]) 80 _ _ _ _ _ (Nat.zero_le _) ?_
        simp (config := { maxSteps := 10000000 }) only [z40, z20, z10, z01, zm0, z0m, ze_s, ze_ok, zt_s, zt_t, zt_f, zl_I, zl_J, zl_R, zl_N, zl_C, zl_K, zl_M, zl_ar0, zl_ar1, zl_ar2, zl_ar3, zl_as0, zl_as1, zl_as2, zl_al, zl_gf, zl_gr, zl_pf, zl_iv, zl_ivn, zlk_n, zlk_c, ztb_n, ztb_c, zin_n, zin_1, zin_c, Int.reduceLT, decide_true, decide_false, Bool.true_and, Bool.and_true, List.length_cons, List.length_nil, Int.reduceSub, Int.reduceEq, Int.natCast_zero, zk_s, z_in_n, z_in_c, z_gt_0, z_gt_s, zst_0, zst_1, zst_s, zsl_0, zsl_1, zsl_s, zc_n, zc_i, zc_l, zc_r, zc_u, zca_n, zca_i, zca_l, zca_r, zca_u, zrt_i, zrt_z, zrt_o, z_cal_0, z_cal_s, true_and, and_true, List.nil_append, List.cons_append, Option.toList_some, Option.toList_none, Nat.reduceAdd, Nat.reduceBEq, Nat.reduceLT, Nat.reduceLeDiff, Nat.reduceSub, Int.reduceAdd, Int.reduceLE, Int.reduceToNat, Int.cast_ofNat_Int, Bool.or_true, Bool.true_or, Bool.or_false, Bool.false_or, Nat.le_refl, Nat.zero_le, or_true, true_or, or_false, false_or, not_true_eq_false, not_false_eq_true, not_false_iff, false_implies, true_implies, eq_self, zo_iconst, zo_bipush, zo_sipush, zo_lconst, zo_ldc, zo_ldc_w, zo_ldc2_w, zo_iload_n, zo_iload, zo_lload_n, zo_lload, zo_aload_n, zo_aload, zo_istore_n, zo_istore, zo_lstore_n, zo_lstore, zo_astore_n, zo_astore, zo_iinc, zo_iadd, zo_isub, zo_imul, zo_iand, zo_ior, zo_ixor, zo_ishl, zo_ishr, zo_iushr, zo_idiv, zo_irem, zo_ladd, zo_lsub, zo_lmul, zo_ldiv, zo_lrem, zo_lcmp, zo_i2l, zo_i2b, zo_i2s, zo_dup, zo_dup2, zo_aconst_null, zo_if_icmp, zo_ifCond, zo_goto, zo_ifnull, zo_ifnonnull, zo_iaload, zo_baload, zo_laload, zo_aaload, zo_iastore, zo_bastore, zo_lastore, zo_arraylength, zo_getfield, zo_putfield, zo_tableswitch, zo_lookupswitch, zo_ireturn, zo_lreturn, zo_areturn, zo_return, zo_invokestatic, zo_invokevirtual, zo_new, zo_invokespecial, zo_newarray, zo_anewarray, zo_aastore, zy_0_1, zy_0_2, zy_0_3, zy_1_1, zy_1_2, zy_2_1, zy_2_2, zy_2_3, zy_3_0, zy_4_3, zy_5_1, zy_5_2, zy_6_5, zy_6_6, zy_6_7, zy_6_8, zy_6_9, zy_6_10, zy_7_2, zy_7_6, zy_7_9, zy_7_10, zy_7_11, zy_7_12, zy_7_14, zy_7_21, zy_7_30, zq_iconst, zq_bipush, zq_sipush, zq_lconst0, zq_lconst1, zq_ldc, zq_ldc_w, zq_ldc2_w, zq_iload0, zq_iload1, zq_iload2, zq_iload3, zq_iload, zq_lload0, zq_lload1, zq_lload2, zq_lload3, zq_lload, zq_aload0, zq_aload1, zq_aload2, zq_aload3, zq_aload, zq_istore0, zq_istore1, zq_istore2, zq_istore3, zq_istore, zq_lstore0, zq_lstore1, zq_lstore2, zq_lstore3, zq_lstore, zq_astore0, zq_astore0N, zq_astore1, zq_astore1N, zq_astore2, zq_astore2N, zq_astore3, zq_astore3N, zq_astore, zq_astoreN, zq_iinc, zq_iadd, zq_isub, zq_imul, zq_iand, zq_ior, zq_ixor, zq_ishl, zq_ishr, zq_iushr, zq_idiv, zq_irem, zq_ladd, zq_lsub, zq_lmul, zq_ldiv, zq_lrem, zq_lcmp, zq_i2l, zq_i2b, zq_i2s, zq_dup_i, zq_dup_r, zq_dup2, zq_null, zq_icmp_eq, zq_if_eq, zq_icmp_ne, zq_if_ne, zq_icmp_lt, zq_if_lt, zq_icmp_ge, zq_if_ge, zq_icmp_gt, zq_if_gt, zq_icmp_le, zq_if_le, zq_goto, zq_ifnull_r, zq_ifnull_n, zq_ifnonnull_r, zq_ifnonnull_n, zq_iaload, zq_baload, zq_laload, zq_aaload, zq_iastore, zq_bastore, zq_lastore, zq_alen, zq_getf, zq_put, zq_tsw, zq_lsw, zq_ireturn, zq_lreturn, zq_areturn, zq_areturnN, zq_return, zq_invokestatic, zq_invokevirtual, zq_new, zq_invokespecial, zq_newarray, zq_anewarray, zq_aastore, zi_m1, zi_0, zi_1, zi_2, zi_3, zi_4, zi_5, zi_6, zi_8, zi_16, zb_m10, zb_m4, zb_m3, zb_m2, zb_6, zb_7, zb_8, zb_9, zb_10, zb_16, zb_20, zb_23, zb_30, zb_32, zb_35, zb_46, zb_48, zb_56, zb_57, zb_59, zb_63, zb_70, zb_98, zb_99, zb_100, zb_111, zb_112, zs_192, zs_255, zs_256, zs_511, zs_512, zs_12345, zf_X5_11_13, zf_X5_15_13, zf_X5_18_13, zf_X5_21_13, za_C_2, za_C_3, za_C_4, za_C_5, za_C_6, za_C_8, za_C_9, za_C_10, za_C_12, za_C_14, za_C_15, za_C_16, za_C_17, za_C_22, za_C_23, za_C_24, za_C_25, dX5_allow_0, dX5_allow_1, dX5_allow_2, dX5_allow_3, dX5_allow_4, dX5_allow_7, dX5_allow_10, dX5_allow_11, dX5_allow_13, dX5_allow_16, dX5_allow_17, dX5_allow_18, dX5_allow_19, dX5_allow_22, dX5_allow_23, dX5_allow_24, dX5_allow_25, dX5_allow_28, dX5_allow_29, dX5_allow_30, dX5_allow_33, dX5_allow_35, dX5_allow_37, dX5_allow_38, dX5_allow_41, dX5_allow_42, dX5_allow_43, dX5_allow_44, dX5_allow_47, dX5_allow_48, dX5_allow_51, dX5_allow_52, dX5_allow_55, dX5_allow_56, dX5_allow_57, dX5_allow_60, dX5_allow_63, dX5_allow_64, cr_X5_allow_25, wr_X5_isSo]
        obtain ⟨f1, f2, f3⟩ := g2 i (by omega)
        obtain ⟨e1, e2⟩ := hs i (by omega)
        simp only [g1, n_le (a := i) (b := n) (by omega) (by omega), n_lt (a := i) (b := n) (by omega) (by omega), n_eq (a := i) (b := n) (by omega) (by omega), n_le (a := n) (b := i) (by omega) (by omega), n_lt (a := n) (b := i) (by omega) (by omega), n_eq (a := n) (b := i) (by omega) (by omega), n_geL (n := i) (M := 8) 8 rfl (by omega) (by omega), n_leL (n := i) (M := 8) 8 rfl (by omega) (by omega), n_ltL (n := i) (M := 8) 8 rfl (by omega) (by omega), n_gtL (n := i) (M := 8) 8 rfl (by omega) (by omega), n_eqL (n := i) (M := 8) 8 rfl (by omega) (by omega), n_cl (show i < 2147483648 by omega), f1, f2, f3, n_geL (n := (sd i).2.2) (M := 1) 1 rfl (by omega) (by omega), n_leL (n := (sd i).2.2) (M := 1) 1 rfl (by omega) (by omega), n_ltL (n := (sd i).2.2) (M := 1) 1 rfl (by omega) (by omega), n_gtL (n := (sd i).2.2) (M := 1) 1 rfl (by omega) (by omega), n_eqL (n := (sd i).2.2) (M := 1) 1 rfl (by omega) (by omega), nI_1]
        have hin : vp_in (nI i) 8 := n_in (by omega) (by omega)
        have st := stop m (i + 1) (by omega)
        rw [ab_allN_s, hA, Bool.true_and] at st
        have nx := fun c4 h => ih (i + 1) c4 (by omega) h
        rw [ab_allN_s, hA, Bool.true_and] at nx
        refine ⟨fun c => absurd c (by omega), fun _ => ⟨fun c => absurd c (by omega), fun _ => ⟨hin, hin, x, j, (sd i).1, rfl, rfl, e1, hx, hj, hb, fun c => ⟨hin, fun d => nx _ ?_, fun d => h2 (st ?_)⟩, fun c => ⟨hin, fun d => h2 (st ?_), fun d => nx _ ?_⟩⟩⟩⟩
        · rw [c, d]; rfl
        · rw [c]; simp [d]
        · rw [c, d]; rfl
        · rw [c]; simp [d]
    refine hK (z_in [2]) 80 _ _ _ _ _ (Nat.zero_le _) ?_
    simp (config := { maxSteps := 10000000 }) only [z40, z20, z10, z01, zm0, z0m, ze_s, ze_ok, zt_s, zt_t, zt_f, zl_I, zl_J, zl_R, zl_N, zl_C, zl_K, zl_M, zl_ar0, zl_ar1, zl_ar2, zl_ar3, zl_as0, zl_as1, zl_as2, zl_al, zl_gf, zl_gr, zl_pf, zl_iv, zl_ivn, zlk_n, zlk_c, ztb_n, ztb_c, zin_n, zin_1, zin_c, Int.reduceLT, decide_true, decide_false, Bool.true_and, Bool.and_true, List.length_cons, List.length_nil, Int.reduceSub, Int.reduceEq, Int.natCast_zero, zk_s, z_in_n, z_in_c, z_gt_0, z_gt_s, zst_0, zst_1, zst_s, zsl_0, zsl_1, zsl_s, zc_n, zc_i, zc_l, zc_r, zc_u, zca_n, zca_i, zca_l, zca_r, zca_u, zrt_i, zrt_z, zrt_o, z_cal_0, z_cal_s, true_and, and_true, List.nil_append, List.cons_append, Option.toList_some, Option.toList_none, Nat.reduceAdd, Nat.reduceBEq, Nat.reduceLT, Nat.reduceLeDiff, Nat.reduceSub, Int.reduceAdd, Int.reduceLE, Int.reduceToNat, Int.cast_ofNat_Int, Bool.or_true, Bool.true_or, Bool.or_false, Bool.false_or, Nat.le_refl, Nat.zero_le, or_true, true_or, or_false, false_or, not_true_eq_false, not_false_eq_true, not_false_iff, false_implies, true_implies, eq_self, zo_iconst, zo_bipush, zo_sipush, zo_lconst, zo_ldc, zo_ldc_w, zo_ldc2_w, zo_iload_n, zo_iload, zo_lload_n, zo_lload, zo_aload_n, zo_aload, zo_istore_n, zo_istore, zo_lstore_n, zo_lstore, zo_astore_n, zo_astore, zo_iinc, zo_iadd, zo_isub, zo_imul, zo_iand, zo_ior, zo_ixor, zo_ishl, zo_ishr, zo_iushr, zo_idiv, zo_irem, zo_ladd, zo_lsub, zo_lmul, zo_ldiv, zo_lrem, zo_lcmp, zo_i2l, zo_i2b, zo_i2s, zo_dup, zo_dup2, zo_aconst_null, zo_if_icmp, zo_ifCond, zo_goto, zo_ifnull, zo_ifnonnull, zo_iaload, zo_baload, zo_laload, zo_aaload, zo_iastore, zo_bastore, zo_lastore, zo_arraylength, zo_getfield, zo_putfield, zo_tableswitch, zo_lookupswitch, zo_ireturn, zo_lreturn, zo_areturn, zo_return, zo_invokestatic, zo_invokevirtual, zo_new, zo_invokespecial, zo_newarray, zo_anewarray, zo_aastore, zy_0_1, zy_0_2, zy_0_3, zy_1_1, zy_1_2, zy_2_1, zy_2_2, zy_2_3, zy_3_0, zy_4_3, zy_5_1, zy_5_2, zy_6_5, zy_6_6, zy_6_7, zy_6_8, zy_6_9, zy_6_10, zy_7_2, zy_7_6, zy_7_9, zy_7_10, zy_7_11, zy_7_12, zy_7_14, zy_7_21, zy_7_30, zq_iconst, zq_bipush, zq_sipush, zq_lconst0, zq_lconst1, zq_ldc, zq_ldc_w, zq_ldc2_w, zq_iload0, zq_iload1, zq_iload2, zq_iload3, zq_iload, zq_lload0, zq_lload1, zq_lload2, zq_lload3, zq_lload, zq_aload0, zq_aload1, zq_aload2, zq_aload3, zq_aload, zq_istore0, zq_istore1, zq_istore2, zq_istore3, zq_istore, zq_lstore0, zq_lstore1, zq_lstore2, zq_lstore3, zq_lstore, zq_astore0, zq_astore0N, zq_astore1, zq_astore1N, zq_astore2, zq_astore2N, zq_astore3, zq_astore3N, zq_astore, zq_astoreN, zq_iinc, zq_iadd, zq_isub, zq_imul, zq_iand, zq_ior, zq_ixor, zq_ishl, zq_ishr, zq_iushr, zq_idiv, zq_irem, zq_ladd, zq_lsub, zq_lmul, zq_ldiv, zq_lrem, zq_lcmp, zq_i2l, zq_i2b, zq_i2s, zq_dup_i, zq_dup_r, zq_dup2, zq_null, zq_icmp_eq, zq_if_eq, zq_icmp_ne, zq_if_ne, zq_icmp_lt, zq_if_lt, zq_icmp_ge, zq_if_ge, zq_icmp_gt, zq_if_gt, zq_icmp_le, zq_if_le, zq_goto, zq_ifnull_r, zq_ifnull_n, zq_ifnonnull_r, zq_ifnonnull_n, zq_iaload, zq_baload, zq_laload, zq_aaload, zq_iastore, zq_bastore, zq_lastore, zq_alen, zq_getf, zq_put, zq_tsw, zq_lsw, zq_ireturn, zq_lreturn, zq_areturn, zq_areturnN, zq_return, zq_invokestatic, zq_invokevirtual, zq_new, zq_invokespecial, zq_newarray, zq_anewarray, zq_aastore, zi_m1, zi_0, zi_1, zi_2, zi_3, zi_4, zi_5, zi_6, zi_8, zi_16, zb_m10, zb_m4, zb_m3, zb_m2, zb_6, zb_7, zb_8, zb_9, zb_10, zb_16, zb_20, zb_23, zb_30, zb_32, zb_35, zb_46, zb_48, zb_56, zb_57, zb_59, zb_63, zb_70, zb_98, zb_99, zb_100, zb_111, zb_112, zs_192, zs_255, zs_256, zs_511, zs_512, zs_12345, zf_X5_11_13, zf_X5_15_13, zf_X5_18_13, zf_X5_21_13, za_C_2, za_C_3, za_C_4, za_C_5, za_C_6, za_C_8, za_C_9, za_C_10, za_C_12, za_C_14, za_C_15, za_C_16, za_C_17, za_C_22, za_C_23, za_C_24, za_C_25, dX5_allow_0, dX5_allow_1, dX5_allow_2, dX5_allow_3, dX5_allow_4, dX5_allow_7, dX5_allow_10, dX5_allow_11, dX5_allow_13, dX5_allow_16, dX5_allow_17, dX5_allow_18, dX5_allow_19, dX5_allow_22, dX5_allow_23, dX5_allow_24, dX5_allow_25, dX5_allow_28, dX5_allow_29, dX5_allow_30, dX5_allow_33, dX5_allow_35, dX5_allow_37, dX5_allow_38, dX5_allow_41, dX5_allow_42, dX5_allow_43, dX5_allow_44, dX5_allow_47, dX5_allow_48, dX5_allow_51, dX5_allow_52, dX5_allow_55, dX5_allow_56, dX5_allow_57, dX5_allow_60, dX5_allow_63, dX5_allow_64, cr_X5_allow_25, wr_X5_isSo]
    exact key n 0 none (by omega) rfl
  · exact h.elim
theorem ok_X5_allow {tl : List ZE} : z_Ok (z_shC tl) yX5_allow cX5_allow 5 (some .boolean) ({ frames := 3, cells := 0, slots := 0, locals := 66 } : Room) 0 wp_X5_allow := z_Ok_of pu_X5_allow z_fX5_ok z_kX5_ok co_X5_allow ⟨by decide, by decide⟩ (by decide +kernel)
theorem rec_X5_allow {tl : List ZE} : z_rec (z_shC tl) wp_X5_allow 4 := by
  intro as S post h
  unfold wp_X5_allow at h
  split at h
  · exact ⟨_, _, _, rfl, rfl⟩
  · exact h.elim

