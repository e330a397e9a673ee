/-! the class's own: texts, books, kings, burnt -/
theorem i_inI {v : Int32} {n : Nat} (h : i_in v n) (hn : n < 2147483648) : v = nI (cn v) ∧ cn v < n := by
  obtain ⟨j, hj, rfl⟩ := n_of (x := v) (m := n) h.1 (by have := h.2; omega)
  have hb : j < 2147483648 := by omega
  rw [show cn (nI j) = j from n_cl hb]
  refine ⟨rfl, ?_⟩
  have := h.2
  rw [n_ti hb] at this
  omega
theorem i_inN {j n : Nat} (h : j < 2147483648) : i_in (nI j) n ↔ j < n := by
  unfold i_in
  rw [n_ti h]
  omega
theorem li0 : (0 : Int32).toInt = 0 := by decide
theorem w_in {v : Int32} {M : Int32} {m : Nat} (hM : M.toInt = (m : Int)) : (0 ≤ v ∧ v ≤ M) ↔ i_in v (m + 1) := by
  rw [i_le, i_le, li0, hM]; unfold i_in; omega
theorem CR_x0 {T : ZT} {S : ZS} (h : CR T S) : (tx0 T).1 ≤ 35 := by simpa [ab_textI] using h.1.1.1
theorem CR_x1 {T : ZT} {S : ZS} (h : CR T S) : (tx1 T).1 ≤ 23 := by simpa [ab_textI] using h.1.2.1.1
theorem CR_b {T : ZT} {S : ZS} (h : CR T S) : c_books (tx0 T) S := h.2.1
theorem CR_k {T : ZT} {S : ZS} (h : CR T S) : c_kings (tx1 T) S := h.2.2.1
theorem CR_nums {T : ZT} {S : ZS} (h : CR T S) : c_nums T S := h.2.2.2.2.2.1
theorem CR_brn {T : ZT} {S : ZS} (h : CR T S) : ab_brn (tnb T) (tod T) ∧ c_brn (tnb T) (tod T) S := ⟨h.1.2.2.2.1, h.2.2.2.1⟩
theorem CR_sai {T : ZT} {S : ZS} (h : CR T S) : ab_sai (tns T) (tsd T) ∧ c_sai (tns T) (tsd T) S := ⟨h.1.2.2.2.2.2.1, h.2.2.2.2.1⟩
/-- a class state that differs in its books' places alone -/
theorem CR_books {T : ZT} {S S' : ZS} {x : ZText} (h : CR T S) (hx : ab_textI 0 x) (hb : c_books x S') (hf : c_frB S S') : CR (wTx0 T x) S' := by
  obtain ⟨⟨a1, a2⟩, -, b2, b3, b4, b5, b6⟩ := h
  refine ⟨⟨hx, a2⟩, hb, ?_, ?_, ?_, ?_, ?_⟩
  · unfold c_kings at *; rw [hf.1 7 (by omega), hf.1 8 (by omega), hf.1 9 (by omega), hf.1 10 (by omega)]; exact b2
  · unfold c_burnt at *; rw [hf.1 11 (by omega), hf.1 12 (by omega)]; exact b3
  · unfold c_said at *; rw [hf.1 13 (by omega), hf.1 14 (by omega), hf.1 15 (by omega), hf.1 16 (by omega)]; exact b4
  · unfold c_nums at *; rw [hf.1 0 (by omega)]; exact b5
  · intro s hs; have := b6 s hs; unfold c_sheet at *; rw [hf.1 (18 + s) (by omega), hf.1 (22 + s) (by omega)]; exact this
theorem CR_kings {T : ZT} {S S' : ZS} {x : ZText} (h : CR T S) (hx : ab_textI 1 x) (hb : c_kings x S') (hf : c_frK S S') : CR (wTx1 T x) S' := by
  obtain ⟨⟨a1, a2, a3⟩, b1, -, b3, b4, b5, b6⟩ := h
  refine ⟨⟨a1, hx, a3⟩, ?_, hb, ?_, ?_, ?_, ?_⟩
  · unfold c_books at *; rw [hf.1 1 (by omega), hf.1 2 (by omega), hf.1 3 (by omega), hf.1 4 (by omega), hf.1 5 (by omega), hf.1 6 (by omega)]; exact b1
  · unfold c_burnt at *; rw [hf.1 11 (by omega), hf.1 12 (by omega)]; exact b3
  · unfold c_said at *; rw [hf.1 13 (by omega), hf.1 14 (by omega), hf.1 15 (by omega), hf.1 16 (by omega)]; exact b4
  · unfold c_nums at *; rw [hf.1 0 (by omega)]; exact b5
  · intro s hs; have := b6 s hs; unfold c_sheet at *; rw [hf.1 (18 + s) (by omega), hf.1 (22 + s) (by omega)]; exact this
theorem CR_bur {T : ZT} {S S' : ZS} {n : Nat} {od : Nat → Nat} (h : CR T S) (hx : ab_brn n od) (hb : c_brn n od S') (hf : c_frT S S') : CR (wBr T (n, od)) S' := by
  obtain ⟨⟨a1, a2, a3, a4, a5⟩, b1, b2, -, b4, b5, b6⟩ := h
  refine ⟨⟨a1, a2, a3, hx, a5⟩, ?_, ?_, hb, ?_, ?_, ?_⟩
  · unfold c_books at *; rw [hf.1 1 (by omega), hf.1 2 (by omega), hf.1 3 (by omega), hf.1 4 (by omega), hf.1 5 (by omega), hf.1 6 (by omega)]; exact b1
  · unfold c_kings at *; rw [hf.1 7 (by omega), hf.1 8 (by omega), hf.1 9 (by omega), hf.1 10 (by omega)]; exact b2
  · unfold c_said at *; rw [hf.1 13 (by omega), hf.1 14 (by omega), hf.1 15 (by omega), hf.1 16 (by omega)]; exact b4
  · unfold c_nums at *; rw [hf.1 0 (by omega)]; exact b5
  · intro s hs; have := b6 s hs; unfold c_sheet at *; rw [hf.1 (18 + s) (by omega), hf.1 (22 + s) (by omega)]; exact this
theorem i0 (v : Int32) : v.toInt = 0 ↔ v = 0 := by rw [i_eq, li0]
theorem i1 (v : Int32) : v.toInt = 1 ↔ v = 1 := by rw [i_eq]; simp
def wp_X7_textOf : ZW := fun as S k => match as with
  | [.ref 0, .int v] => (v = 0 → k (some (.ref 1)) S) ∧ (v = 1 → k (some (.ref 7)) S) ∧ (¬ v = 0 → ¬ v = 1 → k (some .null) S)
  | _ => False
theorem wr_X7_textOf {v : Int32} {S : ZS} {k : Option Value → ZS → Prop} : wp_X7_textOf [.ref 0, .int v] S k = ((v = 0 → k (some (.ref 1)) S) ∧ (v = 1 → k (some (.ref 7)) S) ∧ (¬ v = 0 → ¬ v = 1 → k (some .null) S)) := rfl
def cs_X7_textOf : List (Nat × ZC) := []
set_option maxRecDepth 20000 in
theorem co_X7_textOf {tl : List ZE} : z_csok RX7 ({ frames := 0, cells := 0, slots := 0, locals := 0 } : Room) (z_shC tl) cs_X7_textOf := z_cs0
set_option maxHeartbeats 4000000 in
set_option maxRecDepth 20000 in
theorem pu_X7_textOf {tl : List ZE} : z_Pure cX7_textOf 2 (z_shC tl) z_fX7 cs_X7_textOf z_kcX7 z_klX7 (some (.object "NineBooks$Entries")) 0 wp_X7_textOf := by
  intro as S post h
  unfold wp_X7_textOf at h
  split at h
  · rename_i v
    refine ⟨Nat.le_of_ble_eq_true rfl, fun K hK => ?_⟩
    change K 0 0 [some (.ref 0), some (.int v)] [] S
    refine hK (z_in []) 60 _ _ _ _ _ (Nat.zero_le _) ?_
    simp (config := { maxSteps := 10000000 }) only [z40, z20, z10, z01, zm0, z0m, ze_s, ze_ok, zt_s, zt_t, zt_f, zl_I, zl_J, zl_R, zl_N, zl_C, zl_K, zl_M, zl_ar0, zl_ar1, zl_ar2, zl_ar3, zl_as0, zl_as1, zl_as2, zl_al, zl_gf, zl_gr, zl_pf, zl_iv, zl_ivn, zlk_n, zlk_c, ztb_n, ztb_c, zin_n, zin_1, zin_c, Int.reduceLT, decide_true, decide_false, Bool.true_and, Bool.and_true, List.length_cons, List.length_nil, Int.reduceSub, Int.reduceEq, Int.natCast_zero, zk_s, z_in_n, z_in_c, z_gt_0, z_gt_s, zst_0, zst_1, zst_s, zsl_0, zsl_1, zsl_s, zc_n, zc_i, zc_l, zc_r, zc_u, zca_n, zca_i, zca_l, zca_r, zca_u, zrt_i, zrt_z, zrt_o, z_cal_0, z_cal_s, true_and, and_true, List.nil_append, List.cons_append, Option.toList_some, Option.toList_none, Nat.reduceAdd, Nat.reduceBEq, Nat.reduceLT, Nat.reduceLeDiff, Nat.reduceSub, Int.reduceAdd, Int.reduceLE, Int.reduceToNat, Int.cast_ofNat_Int, Bool.or_true, Bool.true_or, Bool.or_false, Bool.false_or, Nat.le_refl, Nat.zero_le, or_true, true_or, or_false, false_or, not_true_eq_false, not_false_eq_true, not_false_iff, false_implies, true_implies, eq_self, zo_iconst, zo_bipush, zo_sipush, zo_lconst, zo_ldc, zo_ldc_w, zo_ldc2_w, zo_iload_n, zo_iload, zo_lload_n, zo_lload, zo_aload_n, zo_aload, zo_istore_n, zo_istore, zo_lstore_n, zo_lstore, zo_astore_n, zo_astore, zo_iinc, zo_iadd, zo_isub, zo_imul, zo_iand, zo_ior, zo_ixor, zo_ishl, zo_ishr, zo_iushr, zo_idiv, zo_irem, zo_ladd, zo_lsub, zo_lmul, zo_ldiv, zo_lrem, zo_lcmp, zo_i2l, zo_i2b, zo_i2s, zo_dup, zo_dup2, zo_aconst_null, zo_if_icmp, zo_ifCond, zo_goto, zo_ifnull, zo_ifnonnull, zo_iaload, zo_baload, zo_laload, zo_aaload, zo_iastore, zo_bastore, zo_lastore, zo_arraylength, zo_getfield, zo_putfield, zo_tableswitch, zo_lookupswitch, zo_ireturn, zo_lreturn, zo_areturn, zo_return, zo_invokestatic, zo_invokevirtual, zo_new, zo_invokespecial, zo_newarray, zo_anewarray, zo_aastore, zy_0_1, zy_0_2, zy_0_3, zy_1_1, zy_1_2, zy_2_1, zy_2_2, zy_2_3, zy_3_0, zy_4_3, zy_5_1, zy_5_2, zy_6_5, zy_6_6, zy_6_7, zy_6_8, zy_6_9, zy_6_10, zy_7_2, zy_7_6, zy_7_9, zy_7_10, zy_7_11, zy_7_12, zy_7_14, zy_7_21, zy_7_30, zq_iconst, zq_bipush, zq_sipush, zq_lconst0, zq_lconst1, zq_ldc, zq_ldc_w, zq_ldc2_w, zq_iload0, zq_iload1, zq_iload2, zq_iload3, zq_iload, zq_lload0, zq_lload1, zq_lload2, zq_lload3, zq_lload, zq_aload0, zq_aload1, zq_aload2, zq_aload3, zq_aload, zq_istore0, zq_istore1, zq_istore2, zq_istore3, zq_istore, zq_lstore0, zq_lstore1, zq_lstore2, zq_lstore3, zq_lstore, zq_astore0, zq_astore0N, zq_astore1, zq_astore1N, zq_astore2, zq_astore2N, zq_astore3, zq_astore3N, zq_astore, zq_astoreN, zq_iinc, zq_iadd, zq_isub, zq_imul, zq_iand, zq_ior, zq_ixor, zq_ishl, zq_ishr, zq_iushr, zq_idiv, zq_irem, zq_ladd, zq_lsub, zq_lmul, zq_ldiv, zq_lrem, zq_lcmp, zq_i2l, zq_i2b, zq_i2s, zq_dup_i, zq_dup_r, zq_dup2, zq_null, zq_icmp_eq, zq_if_eq, zq_icmp_ne, zq_if_ne, zq_icmp_lt, zq_if_lt, zq_icmp_ge, zq_if_ge, zq_icmp_gt, zq_if_gt, zq_icmp_le, zq_if_le, zq_goto, zq_ifnull_r, zq_ifnull_n, zq_ifnonnull_r, zq_ifnonnull_n, zq_iaload, zq_baload, zq_laload, zq_aaload, zq_iastore, zq_bastore, zq_lastore, zq_alen, zq_getf, zq_put, zq_tsw, zq_lsw, zq_ireturn, zq_lreturn, zq_areturn, zq_areturnN, zq_return, zq_invokestatic, zq_invokevirtual, zq_new, zq_invokespecial, zq_newarray, zq_anewarray, zq_aastore, zi_m1, zi_0, zi_1, zi_2, zi_3, zi_4, zi_5, zi_6, zi_8, zi_16, zb_m10, zb_m4, zb_m3, zb_m2, zb_6, zb_7, zb_8, zb_9, zb_10, zb_16, zb_20, zb_23, zb_30, zb_32, zb_35, zb_46, zb_48, zb_56, zb_57, zb_59, zb_63, zb_70, zb_98, zb_99, zb_100, zb_111, zb_112, zs_192, zs_255, zs_256, zs_511, zs_512, zs_12345, zf_X7_10_0, zf_X7_19_0, zf_X7_26_0, zf_X7_33_0, zf_X7_39_0, zf_X7_43_0, zf_X7_47_0, zf_X7_50_0, zf_X7_53_0, zf_X7_56_0, zf_X7_59_0, zkc_X7_223, zkl_X7_313, zkl_X7_240, zkl_X7_305, za_C_2, za_C_3, za_C_4, za_C_5, za_C_6, za_C_8, za_C_9, za_C_10, za_C_12, za_C_14, za_C_15, za_C_16, za_C_17, za_C_22, za_C_23, za_C_24, za_C_25, dX7_textOf_0, dX7_textOf_1, dX7_textOf_28, dX7_textOf_29, dX7_textOf_32, dX7_textOf_33, dX7_textOf_34, dX7_textOf_37, dX7_textOf_38, dX7_textOf_39]
    simp only [i0, i1]
    exact ⟨h.1, fun c => ⟨h.2.1, h.2.2 c⟩⟩
  · exact h.elim
theorem ok_X7_textOf {tl : List ZE} : z_Ok (z_shC tl) yX7_textOf cX7_textOf 2 (some (.object "NineBooks$Entries")) ({ frames := 0, cells := 0, slots := 0, locals := 0 } : Room) 0 wp_X7_textOf := z_Ok_of pu_X7_textOf z_fX7_ok z_kX7_ok co_X7_textOf ⟨by decide, by decide⟩ (by decide +kernel)
theorem rec_X7_textOf {tl : List ZE} : z_rec (z_shC tl) wp_X7_textOf 6 := by
  intro as S post h
  unfold wp_X7_textOf at h
  split at h
  · exact ⟨_, _, _, rfl, rfl⟩
  · exact h.elim
def wp_X7_type (T : ZT) : ZW := fun as S k => match as with
  | [.ref 0, .int t, .int b] => CR T S ∧ ∀ S', CR (u_type T t b) S' → k (some (.int (q_type T t b))) S'
  | _ => False
theorem wr_X7_type {T : ZT} {t : Int32} {b : Int32} {S : ZS} {k : Option Value → ZS → Prop} : (wp_X7_type T) [.ref 0, .int t, .int b] S k = (CR T S ∧ ∀ S', CR (u_type T t b) S' → k (some (.int (q_type T t b))) S') := rfl
theorem wo_X2_append_B_X2_append_B_0 {b : Int32} {S : ZS} {k : Option Value → ZS → Prop} : z_or wp_X2_append_B wp_X2_append_K [.ref 1, .int b] S k = (∃ (x : ZText) (y : Nat), b = nI y ∧ y ≤ 255 ∧ ab_textI 0 x ∧ c_books x S ∧ (x.1 = 35 → k (some (.int (-4))) S) ∧ (x.1 < 35 → ∀ S', c_books (x.1 + 1, va_up x.2 x.1 y) S' → c_frB S S' → k (some (.int (nI (x.1 + 1)))) S')) := propext ⟨fun h => h.elim (fun z => z) (fun z => False.elim z), Or.inl⟩
theorem wo_X2_append_B_X2_append_K_0 {b : Int32} {S : ZS} {k : Option Value → ZS → Prop} : z_or wp_X2_append_B wp_X2_append_K [.ref 7, .int b] S k = (∃ (x : ZText) (y : Nat), b = nI y ∧ y ≤ 255 ∧ ab_textI 1 x ∧ c_kings x S ∧ (x.1 = 23 → k (some (.int (-4))) S) ∧ (x.1 < 23 → ∀ S', c_kings (x.1 + 1, va_up x.2 x.1 y) S' → c_frK S S' → k (some (.int (nI (x.1 + 1)))) S')) := propext ⟨fun h => h.elim (fun z => False.elim z) (fun z => z), Or.inr⟩
def cs_X7_type : List (Nat × ZC) := [(63, (2, 0, false, wp_X7_textOf)), (67, (3, 0, true, wp_X7_within)), (71, (2, 0, false, z_or wp_X2_append_B wp_X2_append_K))]
theorem cr_X7_type_63 : cs_X7_type.lookup 63 = some (2, 0, false, wp_X7_textOf) := rfl
theorem cr_X7_type_67 : cs_X7_type.lookup 67 = some (3, 0, true, wp_X7_within) := rfl
theorem cr_X7_type_71 : cs_X7_type.lookup 71 = some (2, 0, false, z_or wp_X2_append_B wp_X2_append_K) := rfl
set_option maxRecDepth 20000 in
theorem co_X7_type {tl : List ZE} : z_csok RX7 ({ frames := 6, cells := 0, slots := 0, locals := 131 } : Room) (z_shC tl) cs_X7_type := z_cs2 (z_csV ok_X7_textOf rec_X7_textOf rfl (z_g 206 (by decide +kernel) rfl) (z_g 208 (by decide +kernel) rfl) (z_g 0 (by decide +kernel) rfl) (z_g 209 (by decide +kernel) rfl) (z_g 44 (by decide +kernel) rfl) rfl rfl (by decide +kernel) ⟨by decide, by decide⟩)
  (z_cs2 (z_csS ok_X7_within (z_g 210 (by decide +kernel) rfl) (z_g 211 (by decide +kernel) rfl) (z_g 44 (by decide +kernel) rfl) (z_g 212 (by decide +kernel) rfl) rfl rfl (by decide +kernel) ⟨by decide, by decide⟩)
  (z_cs2 (z_csO (z_csU (owner := "NineBooks$Entries") (x := ⟨"NineBooks$Entries", "append", "(I)I"⟩) ok_X2_append_B rec_X2_append_B rfl (Or.inr ⟨z_g 214 (by decide +kernel) rfl, cX2_append, 2, (some .int), z_g 218 (by decide +kernel) rfl⟩) (z_g 213 (by decide +kernel) rfl) (z_g 214 (by decide +kernel) rfl) (z_g 216 (by decide +kernel) rfl) (z_g 218 (by decide +kernel) rfl) (z_g 45 (by decide +kernel) rfl) (z_g 215 (by decide +kernel) rfl) rfl rfl (by decide +kernel) ⟨by decide, by decide⟩) (z_csU (owner := "NineBooks$Entries") (x := ⟨"NineBooks$Entries", "append", "(I)I"⟩) ok_X2_append_K rec_X2_append_K rfl (Or.inr ⟨z_g 214 (by decide +kernel) rfl, cX2_append, 2, (some .int), z_g 218 (by decide +kernel) rfl⟩) (z_g 213 (by decide +kernel) rfl) (z_g 214 (by decide +kernel) rfl) (z_g 217 (by decide +kernel) rfl) (z_g 218 (by decide +kernel) rfl) (z_g 45 (by decide +kernel) rfl) (z_g 215 (by decide +kernel) rfl) rfl rfl (by decide +kernel) ⟨by decide, by decide⟩))
  (z_cs0)))
set_option maxHeartbeats 4000000 in
set_option maxRecDepth 20000 in
theorem pu_X7_type (T : ZT) {tl : List ZE} : z_Pure cX7_type 4 (z_shC tl) z_fX7 cs_X7_type z_kcX7 z_klX7 (some .int) 0 (wp_X7_type T) := by
  intro as S post h
  unfold wp_X7_type at h
  split at h
  · rename_i t b
    refine ⟨Nat.le_of_ble_eq_true rfl, fun K hK => ?_⟩
    change K 0 0 [some (.ref 0), some (.int t), some (.int b), none] [] S
    obtain ⟨hC, hk⟩ := h
    have hx0 := CR_x0 hC
    have hx1 := CR_x1 hC
    refine hK (z_in []) 60 _ _ _ _ _ (Nat.zero_le _) ?_
    simp (config := { maxSteps := 10000000 }) only [z40, z20, z10, z01, zm0, z0m, ze_s, ze_ok, zt_s, zt_t, zt_f, zl_I, zl_J, zl_R, zl_N, zl_C, zl_K, zl_M, zl_ar0, zl_ar1, zl_ar2, zl_ar3, zl_as0, zl_as1, zl_as2, zl_al, zl_gf, zl_gr, zl_pf, zl_iv, zl_ivn, zlk_n, zlk_c, ztb_n, ztb_c, zin_n, zin_1, zin_c, Int.reduceLT, decide_true, decide_false, Bool.true_and, Bool.and_true, List.length_cons, List.length_nil, Int.reduceSub, Int.reduceEq, Int.natCast_zero, zk_s, z_in_n, z_in_c, z_gt_0, z_gt_s, zst_0, zst_1, zst_s, zsl_0, zsl_1, zsl_s, zc_n, zc_i, zc_l, zc_r, zc_u, zca_n, zca_i, zca_l, zca_r, zca_u, zrt_i, zrt_z, zrt_o, z_cal_0, z_cal_s, true_and, and_true, List.nil_append, List.cons_append, Option.toList_some, Option.toList_none, Nat.reduceAdd, Nat.reduceBEq, Nat.reduceLT, Nat.reduceLeDiff, Nat.reduceSub, Int.reduceAdd, Int.reduceLE, Int.reduceToNat, Int.cast_ofNat_Int, Bool.or_true, Bool.true_or, Bool.or_false, Bool.false_or, Nat.le_refl, Nat.zero_le, or_true, true_or, or_false, false_or, not_true_eq_false, not_false_eq_true, not_false_iff, false_implies, true_implies, eq_self, zo_iconst, zo_bipush, zo_sipush, zo_lconst, zo_ldc, zo_ldc_w, zo_ldc2_w, zo_iload_n, zo_iload, zo_lload_n, zo_lload, zo_aload_n, zo_aload, zo_istore_n, zo_istore, zo_lstore_n, zo_lstore, zo_astore_n, zo_astore, zo_iinc, zo_iadd, zo_isub, zo_imul, zo_iand, zo_ior, zo_ixor, zo_ishl, zo_ishr, zo_iushr, zo_idiv, zo_irem, zo_ladd, zo_lsub, zo_lmul, zo_ldiv, zo_lrem, zo_lcmp, zo_i2l, zo_i2b, zo_i2s, zo_dup, zo_dup2, zo_aconst_null, zo_if_icmp, zo_ifCond, zo_goto, zo_ifnull, zo_ifnonnull, zo_iaload, zo_baload, zo_laload, zo_aaload, zo_iastore, zo_bastore, zo_lastore, zo_arraylength, zo_getfield, zo_putfield, zo_tableswitch, zo_lookupswitch, zo_ireturn, zo_lreturn, zo_areturn, zo_return, zo_invokestatic, zo_invokevirtual, zo_new, zo_invokespecial, zo_newarray, zo_anewarray, zo_aastore, zy_0_1, zy_0_2, zy_0_3, zy_1_1, zy_1_2, zy_2_1, zy_2_2, zy_2_3, zy_3_0, zy_4_3, zy_5_1, zy_5_2, zy_6_5, zy_6_6, zy_6_7, zy_6_8, zy_6_9, zy_6_10, zy_7_2, zy_7_6, zy_7_9, zy_7_10, zy_7_11, zy_7_12, zy_7_14, zy_7_21, zy_7_30, zq_iconst, zq_bipush, zq_sipush, zq_lconst0, zq_lconst1, zq_ldc, zq_ldc_w, zq_ldc2_w, zq_iload0, zq_iload1, zq_iload2, zq_iload3, zq_iload, zq_lload0, zq_lload1, zq_lload2, zq_lload3, zq_lload, zq_aload0, zq_aload1, zq_aload2, zq_aload3, zq_aload, zq_istore0, zq_istore1, zq_istore2, zq_istore3, zq_istore, zq_lstore0, zq_lstore1, zq_lstore2, zq_lstore3, zq_lstore, zq_astore0, zq_astore0N, zq_astore1, zq_astore1N, zq_astore2, zq_astore2N, zq_astore3, zq_astore3N, zq_astore, zq_astoreN, zq_iinc, zq_iadd, zq_isub, zq_imul, zq_iand, zq_ior, zq_ixor, zq_ishl, zq_ishr, zq_iushr, zq_idiv, zq_irem, zq_ladd, zq_lsub, zq_lmul, zq_ldiv, zq_lrem, zq_lcmp, zq_i2l, zq_i2b, zq_i2s, zq_dup_i, zq_dup_r, zq_dup2, zq_null, zq_icmp_eq, zq_if_eq, zq_icmp_ne, zq_if_ne, zq_icmp_lt, zq_if_lt, zq_icmp_ge, zq_if_ge, zq_icmp_gt, zq_if_gt, zq_icmp_le, zq_if_le, zq_goto, zq_ifnull_r, zq_ifnull_n, zq_ifnonnull_r, zq_ifnonnull_n, zq_iaload, zq_baload, zq_laload, zq_aaload, zq_iastore, zq_bastore, zq_lastore, zq_alen, zq_getf, zq_put, zq_tsw, zq_lsw, zq_ireturn, zq_lreturn, zq_areturn, zq_areturnN, zq_return, zq_invokestatic, zq_invokevirtual, zq_new, zq_invokespecial, zq_newarray, zq_anewarray, zq_aastore, zi_m1, zi_0, zi_1, zi_2, zi_3, zi_4, zi_5, zi_6, zi_8, zi_16, zb_m10, zb_m4, zb_m3, zb_m2, zb_6, zb_7, zb_8, zb_9, zb_10, zb_16, zb_20, zb_23, zb_30, zb_32, zb_35, zb_46, zb_48, zb_56, zb_57, zb_59, zb_63, zb_70, zb_98, zb_99, zb_100, zb_111, zb_112, zs_192, zs_255, zs_256, zs_511, zs_512, zs_12345, zf_X7_10_0, zf_X7_19_0, zf_X7_26_0, zf_X7_33_0, zf_X7_39_0, zf_X7_43_0, zf_X7_47_0, zf_X7_50_0, zf_X7_53_0, zf_X7_56_0, zf_X7_59_0, zkc_X7_223, zkl_X7_313, zkl_X7_240, zkl_X7_305, za_C_2, za_C_3, za_C_4, za_C_5, za_C_6, za_C_8, za_C_9, za_C_10, za_C_12, za_C_14, za_C_15, za_C_16, za_C_17, za_C_22, za_C_23, za_C_24, za_C_25, dX7_type_0, dX7_type_1, dX7_type_2, dX7_type_5, dX7_type_6, dX7_type_7, dX7_type_10, dX7_type_11, dX7_type_12, dX7_type_15, dX7_type_18, dX7_type_21, dX7_type_23, dX7_type_24, dX7_type_25, dX7_type_26, dX7_type_29, cr_X7_type_63, cr_X7_type_67, cr_X7_type_71, wr_X7_textOf, wr_X7_within, wo_X2_append_B_X2_append_B_0, wo_X2_append_B_X2_append_K_0]
    have e255 : (0 ≤ b ∧ b ≤ 255) ↔ i_in b 256 := w_in (m := 255) (by decide)
    rw [e255]
    have n10 : ¬ (1 : Int32) = 0 := by decide
    have bad : ¬ ((t = 0 ∨ t = 1) ∧ i_in b 256) → post (some (.int (-2))) S := by
      intro q
      have h1 : q_type T t b = -2 := by unfold q_type; rw [if_neg q]
      have h2 : u_type T t b = T := by unfold u_type; rw [if_neg q]
      rw [h1, h2] at hk
      exact hk S hC
    refine ⟨fun c => ⟨fun d => ?_, fun d => bad (fun q => d q.2)⟩, fun c => ⟨fun d => ?_, fun d => bad (fun q => d q.2)⟩, fun c c' => bad (fun q => q.1.elim c c')⟩
    · subst c
      have c1 : ((0 : Int32) = 0 ∨ (0 : Int32) = 1) ∧ i_in b 256 := ⟨Or.inl rfl, d⟩
      obtain ⟨eb, hb⟩ := i_inI d (by omega)
      refine ⟨tx0 T, cn b, eb, by omega, hC.1.1, CR_b hC, fun e => ?_, fun e S' h1 h2 => ?_⟩
      · have g1 : q_type T 0 b = -4 := by unfold q_type; rw [if_pos c1, if_pos rfl, if_pos e]
        have g2 : u_type T 0 b = T := by unfold u_type; rw [if_pos c1, if_pos rfl, if_pos e]
        rw [g1, g2] at hk
        exact hk S hC
      · have e' : ¬ (tx0 T).1 = 35 := by omega
        have g1 : q_type T 0 b = nI ((tx0 T).1 + 1) := by unfold q_type; rw [if_pos c1, if_pos rfl, if_neg e']
        have g2 : u_type T 0 b = wTx0 T ((tx0 T).1 + 1, va_up (tx0 T).2 (tx0 T).1 (cn b)) := by unfold u_type; rw [if_pos c1, if_pos rfl, if_neg e']
        rw [g1, g2] at hk
        exact hk S' (CR_books hC (ab_upd hC.1.1 (by omega) (by simp; omega)) h1 h2)
    · subst c
      have c1 : ((1 : Int32) = 0 ∨ (1 : Int32) = 1) ∧ i_in b 256 := ⟨Or.inr rfl, d⟩
      obtain ⟨eb, hb⟩ := i_inI d (by omega)
      refine ⟨tx1 T, cn b, eb, by omega, hC.1.2.1, CR_k hC, fun e => ?_, fun e S' h1 h2 => ?_⟩
      · have g1 : q_type T 1 b = -4 := by unfold q_type; rw [if_pos c1, if_neg n10, if_pos e]
        have g2 : u_type T 1 b = T := by unfold u_type; rw [if_pos c1, if_neg n10, if_pos e]
        rw [g1, g2] at hk
        exact hk S hC
      · have e' : ¬ (tx1 T).1 = 23 := by omega
        have g1 : q_type T 1 b = nI ((tx1 T).1 + 1) := by unfold q_type; rw [if_pos c1, if_neg n10, if_neg e']
        have g2 : u_type T 1 b = wTx1 T ((tx1 T).1 + 1, va_up (tx1 T).2 (tx1 T).1 (cn b)) := by unfold u_type; rw [if_pos c1, if_neg n10, if_neg e']
        rw [g1, g2] at hk
        exact hk S' (CR_kings hC (ab_upd hC.1.2.1 (by omega) (by simp; omega)) h1 h2)
  · exact h.elim
theorem ok_X7_type (T : ZT) {tl : List ZE} : z_Ok (z_shC tl) yX7_type cX7_type 4 (some .int) ({ frames := 6, cells := 0, slots := 0, locals := 131 } : Room) 0 (wp_X7_type T) := z_Ok_of (pu_X7_type T) z_fX7_ok z_kX7_ok co_X7_type ⟨by decide, by decide⟩ (by decide +kernel)
theorem rec_X7_type (T : ZT) {tl : List ZE} : z_rec (z_shC tl) (wp_X7_type T) 6 := by
  intro as S post h
  unfold wp_X7_type at h
  split at h
  · exact ⟨_, _, _, rfl, rfl⟩
  · exact h.elim
def wp_X7_wipe (T : ZT) : ZW := fun as S k => match as with
  | [.ref 0, .int t] => CR T S ∧ ∀ S', CR (u_wipe T t) S' → k (some (.int (q_wipe T t))) S'
  | _ => False
theorem wr_X7_wipe {T : ZT} {t : Int32} {S : ZS} {k : Option Value → ZS → Prop} : (wp_X7_wipe T) [.ref 0, .int t] S k = (CR T S ∧ ∀ S', CR (u_wipe T t) S' → k (some (.int (q_wipe T t))) S') := rfl
theorem wo_X2_clear_B_X2_clear_B_0  {S : ZS} {k : Option Value → ZS → Prop} : z_or wp_X2_clear_B wp_X2_clear_K [.ref 1] S k = (∃ x : ZText, ab_textI 0 x ∧ c_books x S ∧ ∀ S', c_books (0, x.2) S' → c_frB S S' → k (some (.int (nI x.1))) S') := propext ⟨fun h => h.elim (fun z => z) (fun z => False.elim z), Or.inl⟩
theorem wo_X2_clear_B_X2_clear_K_0  {S : ZS} {k : Option Value → ZS → Prop} : z_or wp_X2_clear_B wp_X2_clear_K [.ref 7] S k = (∃ x : ZText, ab_textI 1 x ∧ c_kings x S ∧ ∀ S', c_kings (0, x.2) S' → c_frK S S' → k (some (.int (nI x.1))) S') := propext ⟨fun h => h.elim (fun z => False.elim z) (fun z => z), Or.inr⟩
def cs_X7_wipe : List (Nat × ZC) := [(63, (2, 0, false, wp_X7_textOf)), (77, (1, 0, false, z_or wp_X2_clear_B wp_X2_clear_K))]
theorem cr_X7_wipe_63 : cs_X7_wipe.lookup 63 = some (2, 0, false, wp_X7_textOf) := rfl
theorem cr_X7_wipe_77 : cs_X7_wipe.lookup 77 = some (1, 0, false, z_or wp_X2_clear_B wp_X2_clear_K) := rfl
set_option maxRecDepth 20000 in
theorem co_X7_wipe {tl : List ZE} : z_csok RX7 ({ frames := 6, cells := 0, slots := 0, locals := 131 } : Room) (z_shC tl) cs_X7_wipe := z_cs2 (z_csV ok_X7_textOf rec_X7_textOf rfl (z_g 206 (by decide +kernel) rfl) (z_g 208 (by decide +kernel) rfl) (z_g 0 (by decide +kernel) rfl) (z_g 209 (by decide +kernel) rfl) (z_g 44 (by decide +kernel) rfl) rfl rfl (by decide +kernel) ⟨by decide, by decide⟩)
  (z_cs2 (z_csO (z_csU (owner := "NineBooks$Entries") (x := ⟨"NineBooks$Entries", "clear", "()I"⟩) ok_X2_clear_B rec_X2_clear_B rfl (Or.inr ⟨z_g 262 (by decide +kernel) rfl, cX2_clear, 2, (some .int), z_g 266 (by decide +kernel) rfl⟩) (z_g 261 (by decide +kernel) rfl) (z_g 262 (by decide +kernel) rfl) (z_g 264 (by decide +kernel) rfl) (z_g 266 (by decide +kernel) rfl) (z_g 45 (by decide +kernel) rfl) (z_g 263 (by decide +kernel) rfl) rfl rfl (by decide +kernel) ⟨by decide, by decide⟩) (z_csU (owner := "NineBooks$Entries") (x := ⟨"NineBooks$Entries", "clear", "()I"⟩) ok_X2_clear_K rec_X2_clear_K rfl (Or.inr ⟨z_g 262 (by decide +kernel) rfl, cX2_clear, 2, (some .int), z_g 266 (by decide +kernel) rfl⟩) (z_g 261 (by decide +kernel) rfl) (z_g 262 (by decide +kernel) rfl) (z_g 265 (by decide +kernel) rfl) (z_g 266 (by decide +kernel) rfl) (z_g 45 (by decide +kernel) rfl) (z_g 263 (by decide +kernel) rfl) rfl rfl (by decide +kernel) ⟨by decide, by decide⟩))
  (z_cs0))
set_option maxHeartbeats 4000000 in
set_option maxRecDepth 20000 in
theorem pu_X7_wipe (T : ZT) {tl : List ZE} : z_Pure cX7_wipe 3 (z_shC tl) z_fX7 cs_X7_wipe z_kcX7 z_klX7 (some .int) 0 (wp_X7_wipe T) := by
  intro as S post h
  unfold wp_X7_wipe at h
  split at h
  · rename_i t
    refine ⟨Nat.le_of_ble_eq_true rfl, fun K hK => ?_⟩
    change K 0 0 [some (.ref 0), some (.int t), none] [] S
    obtain ⟨hC, hk⟩ := h
    refine hK (z_in []) 60 _ _ _ _ _ (Nat.zero_le _) ?_
    simp (config := { maxSteps := 10000000 }) only [z40, z20, z10, z01, zm0, z0m, ze_s, ze_ok, zt_s, zt_t, zt_f, zl_I, zl_J, zl_R, zl_N, zl_C, zl_K, zl_M, zl_ar0, zl_ar1, zl_ar2, zl_ar3, zl_as0, zl_as1, zl_as2, zl_al, zl_gf, zl_gr, zl_pf, zl_iv, zl_ivn, zlk_n, zlk_c, ztb_n, ztb_c, zin_n, zin_1, zin_c, Int.reduceLT, decide_true, decide_false, Bool.true_and, Bool.and_true, List.length_cons, List.length_nil, Int.reduceSub, Int.reduceEq, Int.natCast_zero, zk_s, z_in_n, z_in_c, z_gt_0, z_gt_s, zst_0, zst_1, zst_s, zsl_0, zsl_1, zsl_s, zc_n, zc_i, zc_l, zc_r, zc_u, zca_n, zca_i, zca_l, zca_r, zca_u, zrt_i, zrt_z, zrt_o, z_cal_0, z_cal_s, true_and, and_true, List.nil_append, List.cons_append, Option.toList_some, Option.toList_none, Nat.reduceAdd, Nat.reduceBEq, Nat.reduceLT, Nat.reduceLeDiff, Nat.reduceSub, Int.reduceAdd, Int.reduceLE, Int.reduceToNat, Int.cast_ofNat_Int, Bool.or_true, Bool.true_or, Bool.or_false, Bool.false_or, Nat.le_refl, Nat.zero_le, or_true, true_or, or_false, false_or, not_true_eq_false, not_false_eq_true, not_false_iff, false_implies, true_implies, eq_self, zo_iconst, zo_bipush, zo_sipush, zo_lconst, zo_ldc, zo_ldc_w, zo_ldc2_w, zo_iload_n, zo_iload, zo_lload_n, zo_lload, zo_aload_n, zo_aload, zo_istore_n, zo_istore, zo_lstore_n, zo_lstore, zo_astore_n, zo_astore, zo_iinc, zo_iadd, zo_isub, zo_imul, zo_iand, zo_ior, zo_ixor, zo_ishl, zo_ishr, zo_iushr, zo_idiv, zo_irem, zo_ladd, zo_lsub, zo_lmul, zo_ldiv, zo_lrem, zo_lcmp, zo_i2l, zo_i2b, zo_i2s, zo_dup, zo_dup2, zo_aconst_null, zo_if_icmp, zo_ifCond, zo_goto, zo_ifnull, zo_ifnonnull, zo_iaload, zo_baload, zo_laload, zo_aaload, zo_iastore, zo_bastore, zo_lastore, zo_arraylength, zo_getfield, zo_putfield, zo_tableswitch, zo_lookupswitch, zo_ireturn, zo_lreturn, zo_areturn, zo_return, zo_invokestatic, zo_invokevirtual, zo_new, zo_invokespecial, zo_newarray, zo_anewarray, zo_aastore, zy_0_1, zy_0_2, zy_0_3, zy_1_1, zy_1_2, zy_2_1, zy_2_2, zy_2_3, zy_3_0, zy_4_3, zy_5_1, zy_5_2, zy_6_5, zy_6_6, zy_6_7, zy_6_8, zy_6_9, zy_6_10, zy_7_2, zy_7_6, zy_7_9, zy_7_10, zy_7_11, zy_7_12, zy_7_14, zy_7_21, zy_7_30, zq_iconst, zq_bipush, zq_sipush, zq_lconst0, zq_lconst1, zq_ldc, zq_ldc_w, zq_ldc2_w, zq_iload0, zq_iload1, zq_iload2, zq_iload3, zq_iload, zq_lload0, zq_lload1, zq_lload2, zq_lload3, zq_lload, zq_aload0, zq_aload1, zq_aload2, zq_aload3, zq_aload, zq_istore0, zq_istore1, zq_istore2, zq_istore3, zq_istore, zq_lstore0, zq_lstore1, zq_lstore2, zq_lstore3, zq_lstore, zq_astore0, zq_astore0N, zq_astore1, zq_astore1N, zq_astore2, zq_astore2N, zq_astore3, zq_astore3N, zq_astore, zq_astoreN, zq_iinc, zq_iadd, zq_isub, zq_imul, zq_iand, zq_ior, zq_ixor, zq_ishl, zq_ishr, zq_iushr, zq_idiv, zq_irem, zq_ladd, zq_lsub, zq_lmul, zq_ldiv, zq_lrem, zq_lcmp, zq_i2l, zq_i2b, zq_i2s, zq_dup_i, zq_dup_r, zq_dup2, zq_null, zq_icmp_eq, zq_if_eq, zq_icmp_ne, zq_if_ne, zq_icmp_lt, zq_if_lt, zq_icmp_ge, zq_if_ge, zq_icmp_gt, zq_if_gt, zq_icmp_le, zq_if_le, zq_goto, zq_ifnull_r, zq_ifnull_n, zq_ifnonnull_r, zq_ifnonnull_n, zq_iaload, zq_baload, zq_laload, zq_aaload, zq_iastore, zq_bastore, zq_lastore, zq_alen, zq_getf, zq_put, zq_tsw, zq_lsw, zq_ireturn, zq_lreturn, zq_areturn, zq_areturnN, zq_return, zq_invokestatic, zq_invokevirtual, zq_new, zq_invokespecial, zq_newarray, zq_anewarray, zq_aastore, zi_m1, zi_0, zi_1, zi_2, zi_3, zi_4, zi_5, zi_6, zi_8, zi_16, zb_m10, zb_m4, zb_m3, zb_m2, zb_6, zb_7, zb_8, zb_9, zb_10, zb_16, zb_20, zb_23, zb_30, zb_32, zb_35, zb_46, zb_48, zb_56, zb_57, zb_59, zb_63, zb_70, zb_98, zb_99, zb_100, zb_111, zb_112, zs_192, zs_255, zs_256, zs_511, zs_512, zs_12345, zf_X7_10_0, zf_X7_19_0, zf_X7_26_0, zf_X7_33_0, zf_X7_39_0, zf_X7_43_0, zf_X7_47_0, zf_X7_50_0, zf_X7_53_0, zf_X7_56_0, zf_X7_59_0, zkc_X7_223, zkl_X7_313, zkl_X7_240, zkl_X7_305, za_C_2, za_C_3, za_C_4, za_C_5, za_C_6, za_C_8, za_C_9, za_C_10, za_C_12, za_C_14, za_C_15, za_C_16, za_C_17, za_C_22, za_C_23, za_C_24, za_C_25, dX7_wipe_0, dX7_wipe_1, dX7_wipe_2, dX7_wipe_5, dX7_wipe_6, dX7_wipe_7, dX7_wipe_10, dX7_wipe_12, dX7_wipe_15, dX7_wipe_16, dX7_wipe_19, cr_X7_wipe_63, cr_X7_wipe_77, wr_X7_textOf, wo_X2_clear_B_X2_clear_B_0, wo_X2_clear_B_X2_clear_K_0]
    unfold q_wipe u_wipe at hk
    refine ⟨fun c => ⟨tx0 T, hC.1.1, CR_b hC, fun S' h1 h2 => ?_⟩, fun c => ⟨tx1 T, hC.1.2.1, CR_k hC, fun S' h1 h2 => ?_⟩, fun c c' => ?_⟩
    · simp only [c, if_true] at hk
      exact hk S' (CR_books hC ⟨Nat.zero_le _, fun i hi => absurd hi (Nat.not_lt_zero _)⟩ h1 h2)
    · simp only [c, z10, if_true, if_false] at hk
      exact hk S' (CR_kings hC ⟨Nat.zero_le _, fun i hi => absurd hi (Nat.not_lt_zero _)⟩ h1 h2)
    · simp only [c, c', if_false] at hk; exact hk S hC
  · exact h.elim
theorem ok_X7_wipe (T : ZT) {tl : List ZE} : z_Ok (z_shC tl) yX7_wipe cX7_wipe 3 (some .int) ({ frames := 6, cells := 0, slots := 0, locals := 131 } : Room) 0 (wp_X7_wipe T) := z_Ok_of (pu_X7_wipe T) z_fX7_ok z_kX7_ok co_X7_wipe ⟨by decide, by decide⟩ (by decide +kernel)
theorem rec_X7_wipe (T : ZT) {tl : List ZE} : z_rec (z_shC tl) (wp_X7_wipe T) 6 := by
  intro as S post h
  unfold wp_X7_wipe at h
  split at h
  · exact ⟨_, _, _, rfl, rfl⟩
  · exact h.elim
def wp_X7_undo (T : ZT) : ZW := fun as S k => match as with
  | [.ref 0, .int t] => CR T S ∧ ∀ S', CR (u_undo T t) S' → k (some (.int (q_undo T t))) S'
  | _ => False
theorem wr_X7_undo {T : ZT} {t : Int32} {S : ZS} {k : Option Value → ZS → Prop} : (wp_X7_undo T) [.ref 0, .int t] S k = (CR T S ∧ ∀ S', CR (u_undo T t) S' → k (some (.int (q_undo T t))) S') := rfl
theorem wo_X2_dropLast_B_X2_dropLast_B_0  {S : ZS} {k : Option Value → ZS → Prop} : z_or wp_X2_dropLast_B wp_X2_dropLast_K [.ref 1] S k = (∃ x : ZText, ab_textI 0 x ∧ c_books x S ∧ (x.1 = 0 → k (some (.int (-3))) S) ∧ (0 < x.1 → ∀ S', c_books (x.1 - 1, x.2) S' → c_frB S S' → k (some (.int (nI (x.1 - 1)))) S')) := propext ⟨fun h => h.elim (fun z => z) (fun z => False.elim z), Or.inl⟩
theorem wo_X2_dropLast_B_X2_dropLast_K_0  {S : ZS} {k : Option Value → ZS → Prop} : z_or wp_X2_dropLast_B wp_X2_dropLast_K [.ref 7] S k = (∃ x : ZText, ab_textI 1 x ∧ c_kings x S ∧ (x.1 = 0 → k (some (.int (-3))) S) ∧ (0 < x.1 → ∀ S', c_kings (x.1 - 1, x.2) S' → c_frK S S' → k (some (.int (nI (x.1 - 1)))) S')) := propext ⟨fun h => h.elim (fun z => False.elim z) (fun z => z), Or.inr⟩
def cs_X7_undo : List (Nat × ZC) := [(63, (2, 0, false, wp_X7_textOf)), (81, (1, 0, false, z_or wp_X2_dropLast_B wp_X2_dropLast_K))]
theorem cr_X7_undo_63 : cs_X7_undo.lookup 63 = some (2, 0, false, wp_X7_textOf) := rfl
theorem cr_X7_undo_81 : cs_X7_undo.lookup 81 = some (1, 0, false, z_or wp_X2_dropLast_B wp_X2_dropLast_K) := rfl
set_option maxRecDepth 20000 in
theorem co_X7_undo {tl : List ZE} : z_csok RX7 ({ frames := 6, cells := 0, slots := 0, locals := 130 } : Room) (z_shC tl) cs_X7_undo := z_cs2 (z_csV ok_X7_textOf rec_X7_textOf rfl (z_g 206 (by decide +kernel) rfl) (z_g 208 (by decide +kernel) rfl) (z_g 0 (by decide +kernel) rfl) (z_g 209 (by decide +kernel) rfl) (z_g 44 (by decide +kernel) rfl) rfl rfl (by decide +kernel) ⟨by decide, by decide⟩)
  (z_cs2 (z_csO (z_csU (owner := "NineBooks$Entries") (x := ⟨"NineBooks$Entries", "dropLast", "()I"⟩) ok_X2_dropLast_B rec_X2_dropLast_B rfl (Or.inr ⟨z_g 272 (by decide +kernel) rfl, cX2_dropLast, 1, (some .int), z_g 276 (by decide +kernel) rfl⟩) (z_g 271 (by decide +kernel) rfl) (z_g 272 (by decide +kernel) rfl) (z_g 274 (by decide +kernel) rfl) (z_g 276 (by decide +kernel) rfl) (z_g 45 (by decide +kernel) rfl) (z_g 273 (by decide +kernel) rfl) rfl rfl (by decide +kernel) ⟨by decide, by decide⟩) (z_csU (owner := "NineBooks$Entries") (x := ⟨"NineBooks$Entries", "dropLast", "()I"⟩) ok_X2_dropLast_K rec_X2_dropLast_K rfl (Or.inr ⟨z_g 272 (by decide +kernel) rfl, cX2_dropLast, 1, (some .int), z_g 276 (by decide +kernel) rfl⟩) (z_g 271 (by decide +kernel) rfl) (z_g 272 (by decide +kernel) rfl) (z_g 275 (by decide +kernel) rfl) (z_g 276 (by decide +kernel) rfl) (z_g 45 (by decide +kernel) rfl) (z_g 273 (by decide +kernel) rfl) rfl rfl (by decide +kernel) ⟨by decide, by decide⟩))
  (z_cs0))
set_option maxHeartbeats 4000000 in
set_option maxRecDepth 20000 in
theorem pu_X7_undo (T : ZT) {tl : List ZE} : z_Pure cX7_undo 3 (z_shC tl) z_fX7 cs_X7_undo z_kcX7 z_klX7 (some .int) 0 (wp_X7_undo T) := by
  intro as S post h
  unfold wp_X7_undo at h
  split at h
  · rename_i t
    refine ⟨Nat.le_of_ble_eq_true rfl, fun K hK => ?_⟩
    change K 0 0 [some (.ref 0), some (.int t), none] [] S
    obtain ⟨hC, hk⟩ := h
    refine hK (z_in []) 60 _ _ _ _ _ (Nat.zero_le _) ?_
    simp (config := { maxSteps := 10000000 }) only [z40, z20, z10, z01, zm0, z0m, ze_s, ze_ok, zt_s, zt_t, zt_f, zl_I, zl_J, zl_R, zl_N, zl_C, zl_K, zl_M, zl_ar0, zl_ar1, zl_ar2, zl_ar3, zl_as0, zl_as1, zl_as2, zl_al, zl_gf, zl_gr, zl_pf, zl_iv, zl_ivn, zlk_n, zlk_c, ztb_n, ztb_c, zin_n, zin_1, zin_c, Int.reduceLT, decide_true, decide_false, Bool.true_and, Bool.and_true, List.length_cons, List.length_nil, Int.reduceSub, Int.reduceEq, Int.natCast_zero, zk_s, z_in_n, z_in_c, z_gt_0, z_gt_s, zst_0, zst_1, zst_s, zsl_0, zsl_1, zsl_s, zc_n, zc_i, zc_l, zc_r, zc_u, zca_n, zca_i, zca_l, zca_r, zca_u, zrt_i, zrt_z, zrt_o, z_cal_0, z_cal_s, true_and, and_true, List.nil_append, List.cons_append, Option.toList_some, Option.toList_none, Nat.reduceAdd, Nat.reduceBEq, Nat.reduceLT, Nat.reduceLeDiff, Nat.reduceSub, Int.reduceAdd, Int.reduceLE, Int.reduceToNat, Int.cast_ofNat_Int, Bool.or_true, Bool.true_or, Bool.or_false, Bool.false_or, Nat.le_refl, Nat.zero_le, or_true, true_or, or_false, false_or, not_true_eq_false, not_false_eq_true, not_false_iff, false_implies, true_implies, eq_self, zo_iconst, zo_bipush, zo_sipush, zo_lconst, zo_ldc, zo_ldc_w, zo_ldc2_w, zo_iload_n, zo_iload, zo_lload_n, zo_lload, zo_aload_n, zo_aload, zo_istore_n, zo_istore, zo_lstore_n, zo_lstore, zo_astore_n, zo_astore, zo_iinc, zo_iadd, zo_isub, zo_imul, zo_iand, zo_ior, zo_ixor, zo_ishl, zo_ishr, zo_iushr, zo_idiv, zo_irem, zo_ladd, zo_lsub, zo_lmul, zo_ldiv, zo_lrem, zo_lcmp, zo_i2l, zo_i2b, zo_i2s, zo_dup, zo_dup2, zo_aconst_null, zo_if_icmp, zo_ifCond, zo_goto, zo_ifnull, zo_ifnonnull, zo_iaload, zo_baload, zo_laload, zo_aaload, zo_iastore, zo_bastore, zo_lastore, zo_arraylength, zo_getfield, zo_putfield, zo_tableswitch, zo_lookupswitch, zo_ireturn, zo_lreturn, zo_areturn, zo_return, zo_invokestatic, zo_invokevirtual, zo_new, zo_invokespecial, zo_newarray, zo_anewarray, zo_aastore, zy_0_1, zy_0_2, zy_0_3, zy_1_1, zy_1_2, zy_2_1, zy_2_2, zy_2_3, zy_3_0, zy_4_3, zy_5_1, zy_5_2, zy_6_5, zy_6_6, zy_6_7, zy_6_8, zy_6_9, zy_6_10, zy_7_2, zy_7_6, zy_7_9, zy_7_10, zy_7_11, zy_7_12, zy_7_14, zy_7_21, zy_7_30, zq_iconst, zq_bipush, zq_sipush, zq_lconst0, zq_lconst1, zq_ldc, zq_ldc_w, zq_ldc2_w, zq_iload0, zq_iload1, zq_iload2, zq_iload3, zq_iload, zq_lload0, zq_lload1, zq_lload2, zq_lload3, zq_lload, zq_aload0, zq_aload1, zq_aload2, zq_aload3, zq_aload, zq_istore0, zq_istore1, zq_istore2, zq_istore3, zq_istore, zq_lstore0, zq_lstore1, zq_lstore2, zq_lstore3, zq_lstore, zq_astore0, zq_astore0N, zq_astore1, zq_astore1N, zq_astore2, zq_astore2N, zq_astore3, zq_astore3N, zq_astore, zq_astoreN, zq_iinc, zq_iadd, zq_isub, zq_imul, zq_iand, zq_ior, zq_ixor, zq_ishl, zq_ishr, zq_iushr, zq_idiv, zq_irem, zq_ladd, zq_lsub, zq_lmul, zq_ldiv, zq_lrem, zq_lcmp, zq_i2l, zq_i2b, zq_i2s, zq_dup_i, zq_dup_r, zq_dup2, zq_null, zq_icmp_eq, zq_if_eq, zq_icmp_ne, zq_if_ne, zq_icmp_lt, zq_if_lt, zq_icmp_ge, zq_if_ge, zq_icmp_gt, zq_if_gt, zq_icmp_le, zq_if_le, zq_goto, zq_ifnull_r, zq_ifnull_n, zq_ifnonnull_r, zq_ifnonnull_n, zq_iaload, zq_baload, zq_laload, zq_aaload, zq_iastore, zq_bastore, zq_lastore, zq_alen, zq_getf, zq_put, zq_tsw, zq_lsw, zq_ireturn, zq_lreturn, zq_areturn, zq_areturnN, zq_return, zq_invokestatic, zq_invokevirtual, zq_new, zq_invokespecial, zq_newarray, zq_anewarray, zq_aastore, zi_m1, zi_0, zi_1, zi_2, zi_3, zi_4, zi_5, zi_6, zi_8, zi_16, zb_m10, zb_m4, zb_m3, zb_m2, zb_6, zb_7, zb_8, zb_9, zb_10, zb_16, zb_20, zb_23, zb_30, zb_32, zb_35, zb_46, zb_48, zb_56, zb_57, zb_59, zb_63, zb_70, zb_98, zb_99, zb_100, zb_111, zb_112, zs_192, zs_255, zs_256, zs_511, zs_512, zs_12345, zf_X7_10_0, zf_X7_19_0, zf_X7_26_0, zf_X7_33_0, zf_X7_39_0, zf_X7_43_0, zf_X7_47_0, zf_X7_50_0, zf_X7_53_0, zf_X7_56_0, zf_X7_59_0, zkc_X7_223, zkl_X7_313, zkl_X7_240, zkl_X7_305, za_C_2, za_C_3, za_C_4, za_C_5, za_C_6, za_C_8, za_C_9, za_C_10, za_C_12, za_C_14, za_C_15, za_C_16, za_C_17, za_C_22, za_C_23, za_C_24, za_C_25, dX7_undo_0, dX7_undo_1, dX7_undo_2, dX7_undo_5, dX7_undo_6, dX7_undo_7, dX7_undo_10, dX7_undo_12, dX7_undo_15, dX7_undo_16, dX7_undo_19, cr_X7_undo_63, cr_X7_undo_81, wr_X7_textOf, wo_X2_dropLast_B_X2_dropLast_B_0, wo_X2_dropLast_B_X2_dropLast_K_0]
    unfold q_undo u_undo at hk
    refine ⟨fun c => ⟨tx0 T, hC.1.1, CR_b hC, fun e => ?_, fun e S' h1 h2 => ?_⟩, fun c => ⟨tx1 T, hC.1.2.1, CR_k hC, fun e => ?_, fun e S' h1 h2 => ?_⟩, fun c c' => ?_⟩
    · simp only [c, e, if_true] at hk
      refine hk S ?_
      have := hC
      rw [show wTx0 T (0 - 1, (tx0 T).2) = T from by rw [Nat.zero_sub]; unfold wTx0; rw [← e]]
      exact hC
    · simp only [c, show ¬ (tx0 T).1 = 0 by omega, if_true, if_false] at hk
      exact hk S' (CR_books hC ⟨Nat.le_trans (Nat.sub_le _ _) hC.1.1.1, fun i hi => hC.1.1.2 i (by dsimp only at hi; omega)⟩ h1 h2)
    · simp only [c, e, z10, if_true, if_false] at hk
      refine hk S ?_
      rw [show wTx1 T (0 - 1, (tx1 T).2) = T from by rw [Nat.zero_sub]; unfold wTx1; rw [← e]]
      exact hC
    · simp only [c, z10, show ¬ (tx1 T).1 = 0 by omega, if_true, if_false] at hk
      exact hk S' (CR_kings hC ⟨Nat.le_trans (Nat.sub_le _ _) hC.1.2.1.1, fun i hi => hC.1.2.1.2 i (by dsimp only at hi; omega)⟩ h1 h2)
    · simp only [c, c', if_false] at hk; exact hk S hC
  · exact h.elim
theorem ok_X7_undo (T : ZT) {tl : List ZE} : z_Ok (z_shC tl) yX7_undo cX7_undo 3 (some .int) ({ frames := 6, cells := 0, slots := 0, locals := 130 } : Room) 0 (wp_X7_undo T) := z_Ok_of (pu_X7_undo T) z_fX7_ok z_kX7_ok co_X7_undo ⟨by decide, by decide⟩ (by decide +kernel)
theorem rec_X7_undo (T : ZT) {tl : List ZE} : z_rec (z_shC tl) (wp_X7_undo T) 6 := by
  intro as S post h
  unfold wp_X7_undo at h
  split at h
  · exact ⟨_, _, _, rfl, rfl⟩
  · exact h.elim
def wp_X7_fault (T : ZT) : ZW := fun as S k => match as with
  | [.ref 0, .int t] => CR T S ∧ k (some (.int (q_fault T t))) S
  | _ => False
theorem wr_X7_fault {T : ZT} {t : Int32} {S : ZS} {k : Option Value → ZS → Prop} : (wp_X7_fault T) [.ref 0, .int t] S k = (CR T S ∧ k (some (.int (q_fault T t))) S) := rfl
theorem wo_X2_faultPlace_B_X2_faultPlace_B_0  {S : ZS} {k : Option Value → ZS → Prop} : z_or wp_X2_faultPlace_B wp_X2_faultPlace_K [.ref 1] S k = (k (some (.int (S.1 1 2))) S) := propext ⟨fun h => h.elim (fun z => z) (fun z => False.elim z), Or.inl⟩
theorem wo_X2_faultPlace_B_X2_faultPlace_K_0  {S : ZS} {k : Option Value → ZS → Prop} : z_or wp_X2_faultPlace_B wp_X2_faultPlace_K [.ref 7] S k = (k (some (.int (S.1 7 2))) S) := propext ⟨fun h => h.elim (fun z => False.elim z) (fun z => z), Or.inr⟩
def cs_X7_fault : List (Nat × ZC) := [(63, (2, 0, false, wp_X7_textOf)), (84, (1, 0, false, z_or wp_X2_faultPlace_B wp_X2_faultPlace_K))]
theorem cr_X7_fault_63 : cs_X7_fault.lookup 63 = some (2, 0, false, wp_X7_textOf) := rfl
theorem cr_X7_fault_84 : cs_X7_fault.lookup 84 = some (1, 0, false, z_or wp_X2_faultPlace_B wp_X2_faultPlace_K) := rfl
set_option maxRecDepth 20000 in
theorem co_X7_fault {tl : List ZE} : z_csok RX7 ({ frames := 1, cells := 0, slots := 0, locals := 21 } : Room) (z_shC tl) cs_X7_fault := z_cs2 (z_csV ok_X7_textOf rec_X7_textOf rfl (z_g 206 (by decide +kernel) rfl) (z_g 208 (by decide +kernel) rfl) (z_g 0 (by decide +kernel) rfl) (z_g 209 (by decide +kernel) rfl) (z_g 44 (by decide +kernel) rfl) rfl rfl (by decide +kernel) ⟨by decide, by decide⟩)
  (z_cs2 (z_csO (z_csU (owner := "NineBooks$Entries") (x := ⟨"NineBooks$Entries", "faultPlace", "()I"⟩) ok_X2_faultPlace_B rec_X2_faultPlace_B rfl (Or.inr ⟨z_g 282 (by decide +kernel) rfl, cX2_faultPlace, 1, (some .int), z_g 286 (by decide +kernel) rfl⟩) (z_g 281 (by decide +kernel) rfl) (z_g 282 (by decide +kernel) rfl) (z_g 284 (by decide +kernel) rfl) (z_g 286 (by decide +kernel) rfl) (z_g 45 (by decide +kernel) rfl) (z_g 283 (by decide +kernel) rfl) rfl rfl (by decide +kernel) ⟨by decide, by decide⟩) (z_csU (owner := "NineBooks$Entries") (x := ⟨"NineBooks$Entries", "faultPlace", "()I"⟩) ok_X2_faultPlace_K rec_X2_faultPlace_K rfl (Or.inr ⟨z_g 282 (by decide +kernel) rfl, cX2_faultPlace, 1, (some .int), z_g 286 (by decide +kernel) rfl⟩) (z_g 281 (by decide +kernel) rfl) (z_g 282 (by decide +kernel) rfl) (z_g 285 (by decide +kernel) rfl) (z_g 286 (by decide +kernel) rfl) (z_g 45 (by decide +kernel) rfl) (z_g 283 (by decide +kernel) rfl) rfl rfl (by decide +kernel) ⟨by decide, by decide⟩))
  (z_cs0))
set_option maxHeartbeats 4000000 in
set_option maxRecDepth 20000 in
theorem pu_X7_fault (T : ZT) {tl : List ZE} : z_Pure cX7_fault 3 (z_shC tl) z_fX7 cs_X7_fault z_kcX7 z_klX7 (some .int) 0 (wp_X7_fault T) := by
  intro as S post h
  unfold wp_X7_fault at h
  split at h
  · rename_i t
    refine ⟨Nat.le_of_ble_eq_true rfl, fun K hK => ?_⟩
    change K 0 0 [some (.ref 0), some (.int t), none] [] S
    obtain ⟨hC, hk⟩ := h
    refine hK (z_in []) 60 _ _ _ _ _ (Nat.zero_le _) ?_
    simp (config := { maxSteps := 10000000 }) only [z40, z20, z10, z01, zm0, z0m, ze_s, ze_ok, zt_s, zt_t, zt_f, zl_I, zl_J, zl_R, zl_N, zl_C, zl_K, zl_M, zl_ar0, zl_ar1, zl_ar2, zl_ar3, zl_as0, zl_as1, zl_as2, zl_al, zl_gf, zl_gr, zl_pf, zl_iv, zl_ivn, zlk_n, zlk_c, ztb_n, ztb_c, zin_n, zin_1, zin_c, Int.reduceLT, decide_true, decide_false, Bool.true_and, Bool.and_true, List.length_cons, List.length_nil, Int.reduceSub, Int.reduceEq, Int.natCast_zero, zk_s, z_in_n, z_in_c, z_gt_0, z_gt_s, zst_0, zst_1, zst_s, zsl_0, zsl_1, zsl_s, zc_n, zc_i, zc_l, zc_r, zc_u, zca_n, zca_i, zca_l, zca_r, zca_u, zrt_i, zrt_z, zrt_o, z_cal_0, z_cal_s, true_and, and_true, List.nil_append, List.cons_append, Option.toList_some, Option.toList_none, Nat.reduceAdd, Nat.reduceBEq, Nat.reduceLT, Nat.reduceLeDiff, Nat.reduceSub, Int.reduceAdd, Int.reduceLE, Int.reduceToNat, Int.cast_ofNat_Int, Bool.or_true, Bool.true_or, Bool.or_false, Bool.false_or, Nat.le_refl, Nat.zero_le, or_true, true_or, or_false, false_or, not_true_eq_false, not_false_eq_true, not_false_iff, false_implies, true_implies, eq_self, zo_iconst, zo_bipush, zo_sipush, zo_lconst, zo_ldc, zo_ldc_w, zo_ldc2_w, zo_iload_n, zo_iload, zo_lload_n, zo_lload, zo_aload_n, zo_aload, zo_istore_n, zo_istore, zo_lstore_n, zo_lstore, zo_astore_n, zo_astore, zo_iinc, zo_iadd, zo_isub, zo_imul, zo_iand, zo_ior, zo_ixor, zo_ishl, zo_ishr, zo_iushr, zo_idiv, zo_irem, zo_ladd, zo_lsub, zo_lmul, zo_ldiv, zo_lrem, zo_lcmp, zo_i2l, zo_i2b, zo_i2s, zo_dup, zo_dup2, zo_aconst_null, zo_if_icmp, zo_ifCond, zo_goto, zo_ifnull, zo_ifnonnull, zo_iaload, zo_baload, zo_laload, zo_aaload, zo_iastore, zo_bastore, zo_lastore, zo_arraylength, zo_getfield, zo_putfield, zo_tableswitch, zo_lookupswitch, zo_ireturn, zo_lreturn, zo_areturn, zo_return, zo_invokestatic, zo_invokevirtual, zo_new, zo_invokespecial, zo_newarray, zo_anewarray, zo_aastore, zy_0_1, zy_0_2, zy_0_3, zy_1_1, zy_1_2, zy_2_1, zy_2_2, zy_2_3, zy_3_0, zy_4_3, zy_5_1, zy_5_2, zy_6_5, zy_6_6, zy_6_7, zy_6_8, zy_6_9, zy_6_10, zy_7_2, zy_7_6, zy_7_9, zy_7_10, zy_7_11, zy_7_12, zy_7_14, zy_7_21, zy_7_30, zq_iconst, zq_bipush, zq_sipush, zq_lconst0, zq_lconst1, zq_ldc, zq_ldc_w, zq_ldc2_w, zq_iload0, zq_iload1, zq_iload2, zq_iload3, zq_iload, zq_lload0, zq_lload1, zq_lload2, zq_lload3, zq_lload, zq_aload0, zq_aload1, zq_aload2, zq_aload3, zq_aload, zq_istore0, zq_istore1, zq_istore2, zq_istore3, zq_istore, zq_lstore0, zq_lstore1, zq_lstore2, zq_lstore3, zq_lstore, zq_astore0, zq_astore0N, zq_astore1, zq_astore1N, zq_astore2, zq_astore2N, zq_astore3, zq_astore3N, zq_astore, zq_astoreN, zq_iinc, zq_iadd, zq_isub, zq_imul, zq_iand, zq_ior, zq_ixor, zq_ishl, zq_ishr, zq_iushr, zq_idiv, zq_irem, zq_ladd, zq_lsub, zq_lmul, zq_ldiv, zq_lrem, zq_lcmp, zq_i2l, zq_i2b, zq_i2s, zq_dup_i, zq_dup_r, zq_dup2, zq_null, zq_icmp_eq, zq_if_eq, zq_icmp_ne, zq_if_ne, zq_icmp_lt, zq_if_lt, zq_icmp_ge, zq_if_ge, zq_icmp_gt, zq_if_gt, zq_icmp_le, zq_if_le, zq_goto, zq_ifnull_r, zq_ifnull_n, zq_ifnonnull_r, zq_ifnonnull_n, zq_iaload, zq_baload, zq_laload, zq_aaload, zq_iastore, zq_bastore, zq_lastore, zq_alen, zq_getf, zq_put, zq_tsw, zq_lsw, zq_ireturn, zq_lreturn, zq_areturn, zq_areturnN, zq_return, zq_invokestatic, zq_invokevirtual, zq_new, zq_invokespecial, zq_newarray, zq_anewarray, zq_aastore, zi_m1, zi_0, zi_1, zi_2, zi_3, zi_4, zi_5, zi_6, zi_8, zi_16, zb_m10, zb_m4, zb_m3, zb_m2, zb_6, zb_7, zb_8, zb_9, zb_10, zb_16, zb_20, zb_23, zb_30, zb_32, zb_35, zb_46, zb_48, zb_56, zb_57, zb_59, zb_63, zb_70, zb_98, zb_99, zb_100, zb_111, zb_112, zs_192, zs_255, zs_256, zs_511, zs_512, zs_12345, zf_X7_10_0, zf_X7_19_0, zf_X7_26_0, zf_X7_33_0, zf_X7_39_0, zf_X7_43_0, zf_X7_47_0, zf_X7_50_0, zf_X7_53_0, zf_X7_56_0, zf_X7_59_0, zkc_X7_223, zkl_X7_313, zkl_X7_240, zkl_X7_305, za_C_2, za_C_3, za_C_4, za_C_5, za_C_6, za_C_8, za_C_9, za_C_10, za_C_12, za_C_14, za_C_15, za_C_16, za_C_17, za_C_22, za_C_23, za_C_24, za_C_25, dX7_fault_0, dX7_fault_1, dX7_fault_2, dX7_fault_5, dX7_fault_6, dX7_fault_7, dX7_fault_10, dX7_fault_12, dX7_fault_15, dX7_fault_16, dX7_fault_19, cr_X7_fault_63, cr_X7_fault_84, wr_X7_textOf, wo_X2_faultPlace_B_X2_faultPlace_B_0, wo_X2_faultPlace_B_X2_faultPlace_K_0]
    unfold q_fault at hk
    rw [(CR_b hC).2.2.1, (CR_k hC).2.2.1]
    refine ⟨fun c => ?_, fun c => ?_, fun c c' => ?_⟩
    · simpa [c] using hk
    · simpa [c, z10] using hk
    · simpa [c, c'] using hk
  · exact h.elim
theorem ok_X7_fault (T : ZT) {tl : List ZE} : z_Ok (z_shC tl) yX7_fault cX7_fault 3 (some .int) ({ frames := 1, cells := 0, slots := 0, locals := 21 } : Room) 0 (wp_X7_fault T) := z_Ok_of (pu_X7_fault T) z_fX7_ok z_kX7_ok co_X7_fault ⟨by decide, by decide⟩ (by decide +kernel)
theorem rec_X7_fault (T : ZT) {tl : List ZE} : z_rec (z_shC tl) (wp_X7_fault T) 6 := by
  intro as S post h
  unfold wp_X7_fault at h
  split at h
  · exact ⟨_, _, _, rfl, rfl⟩
  · exact h.elim
def wp_X7_isKing (T : ZT) : ZW := fun as S k => match as with
  | [.ref 0, .int v] => CR T S ∧ (i_in v (tM T) → k (some (.int 1)) S) ∧ (¬ i_in v (tM T) → k (some (.int 0)) S)
  | _ => False
theorem wr_X7_isKing {T : ZT} {v : Int32} {S : ZS} {k : Option Value → ZS → Prop} : (wp_X7_isKing T) [.ref 0, .int v] S k = (CR T S ∧ (i_in v (tM T) → k (some (.int 1)) S) ∧ (¬ i_in v (tM T) → k (some (.int 0)) S)) := rfl
def cs_X7_isKing : List (Nat × ZC) := [(202, (1, 0, false, wp_X2_number_K)), (67, (3, 0, true, wp_X7_within))]
theorem cr_X7_isKing_202 : cs_X7_isKing.lookup 202 = some (1, 0, false, wp_X2_number_K) := rfl
theorem cr_X7_isKing_67 : cs_X7_isKing.lookup 67 = some (3, 0, true, wp_X7_within) := rfl
set_option maxRecDepth 20000 in
theorem co_X7_isKing {tl : List ZE} : z_csok RX7 ({ frames := 1, cells := 0, slots := 0, locals := 22 } : Room) (z_shC tl) cs_X7_isKing := z_cs2 (z_csU (owner := "NineBooks$Entries") (x := ⟨"NineBooks$Kings", "number", "()I"⟩) ok_X2_number_K rec_X2_number_K rfl (Or.inl (z_gn 293 (by decide +kernel) rfl)) (z_g 317 (by decide +kernel) rfl) (z_g 295 (by decide +kernel) rfl) (z_g 319 (by decide +kernel) rfl) (z_g 296 (by decide +kernel) rfl) (z_g 45 (by decide +kernel) rfl) (z_g 318 (by decide +kernel) rfl) rfl rfl (by decide +kernel) ⟨by decide, by decide⟩)
  (z_cs2 (z_csS ok_X7_within (z_g 210 (by decide +kernel) rfl) (z_g 211 (by decide +kernel) rfl) (z_g 44 (by decide +kernel) rfl) (z_g 212 (by decide +kernel) rfl) rfl rfl (by decide +kernel) ⟨by decide, by decide⟩)
  (z_cs0))
set_option maxHeartbeats 4000000 in
set_option maxRecDepth 20000 in
theorem pu_X7_isKing (T : ZT) {tl : List ZE} : z_Pure cX7_isKing 2 (z_shC tl) z_fX7 cs_X7_isKing z_kcX7 z_klX7 (some .boolean) 0 (wp_X7_isKing T) := by
  intro as S post h
  unfold wp_X7_isKing at h
  split at h
  · rename_i v
    refine ⟨Nat.le_of_ble_eq_true rfl, fun K hK => ?_⟩
    change K 0 0 [some (.ref 0), some (.int v)] [] S
    obtain ⟨hC, h1, h2⟩ := h
    have hn : tM T ≤ 6 := ab_numK (CR_x1 hC)
    refine hK (z_in []) 60 _ _ _ _ _ (Nat.zero_le _) ?_
    simp (config := { maxSteps := 10000000 }) only [z40, z20, z10, z01, zm0, z0m, ze_s, ze_ok, zt_s, zt_t, zt_f, zl_I, zl_J, zl_R, zl_N, zl_C, zl_K, zl_M, zl_ar0, zl_ar1, zl_ar2, zl_ar3, zl_as0, zl_as1, zl_as2, zl_al, zl_gf, zl_gr, zl_pf, zl_iv, zl_ivn, zlk_n, zlk_c, ztb_n, ztb_c, zin_n, zin_1, zin_c, Int.reduceLT, decide_true, decide_false, Bool.true_and, Bool.and_true, List.length_cons, List.length_nil, Int.reduceSub, Int.reduceEq, Int.natCast_zero, zk_s, z_in_n, z_in_c, z_gt_0, z_gt_s, zst_0, zst_1, zst_s, zsl_0, zsl_1, zsl_s, zc_n, zc_i, zc_l, zc_r, zc_u, zca_n, zca_i, zca_l, zca_r, zca_u, zrt_i, zrt_z, zrt_o, z_cal_0, z_cal_s, true_and, and_true, List.nil_append, List.cons_append, Option.toList_some, Option.toList_none, Nat.reduceAdd, Nat.reduceBEq, Nat.reduceLT, Nat.reduceLeDiff, Nat.reduceSub, Int.reduceAdd, Int.reduceLE, Int.reduceToNat, Int.cast_ofNat_Int, Bool.or_true, Bool.true_or, Bool.or_false, Bool.false_or, Nat.le_refl, Nat.zero_le, or_true, true_or, or_false, false_or, not_true_eq_false, not_false_eq_true, not_false_iff, false_implies, true_implies, eq_self, zo_iconst, zo_bipush, zo_sipush, zo_lconst, zo_ldc, zo_ldc_w, zo_ldc2_w, zo_iload_n, zo_iload, zo_lload_n, zo_lload, zo_aload_n, zo_aload, zo_istore_n, zo_istore, zo_lstore_n, zo_lstore, zo_astore_n, zo_astore, zo_iinc, zo_iadd, zo_isub, zo_imul, zo_iand, zo_ior, zo_ixor, zo_ishl, zo_ishr, zo_iushr, zo_idiv, zo_irem, zo_ladd, zo_lsub, zo_lmul, zo_ldiv, zo_lrem, zo_lcmp, zo_i2l, zo_i2b, zo_i2s, zo_dup, zo_dup2, zo_aconst_null, zo_if_icmp, zo_ifCond, zo_goto, zo_ifnull, zo_ifnonnull, zo_iaload, zo_baload, zo_laload, zo_aaload, zo_iastore, zo_bastore, zo_lastore, zo_arraylength, zo_getfield, zo_putfield, zo_tableswitch, zo_lookupswitch, zo_ireturn, zo_lreturn, zo_areturn, zo_return, zo_invokestatic, zo_invokevirtual, zo_new, zo_invokespecial, zo_newarray, zo_anewarray, zo_aastore, zy_0_1, zy_0_2, zy_0_3, zy_1_1, zy_1_2, zy_2_1, zy_2_2, zy_2_3, zy_3_0, zy_4_3, zy_5_1, zy_5_2, zy_6_5, zy_6_6, zy_6_7, zy_6_8, zy_6_9, zy_6_10, zy_7_2, zy_7_6, zy_7_9, zy_7_10, zy_7_11, zy_7_12, zy_7_14, zy_7_21, zy_7_30, zq_iconst, zq_bipush, zq_sipush, zq_lconst0, zq_lconst1, zq_ldc, zq_ldc_w, zq_ldc2_w, zq_iload0, zq_iload1, zq_iload2, zq_iload3, zq_iload, zq_lload0, zq_lload1, zq_lload2, zq_lload3, zq_lload, zq_aload0, zq_aload1, zq_aload2, zq_aload3, zq_aload, zq_istore0, zq_istore1, zq_istore2, zq_istore3, zq_istore, zq_lstore0, zq_lstore1, zq_lstore2, zq_lstore3, zq_lstore, zq_astore0, zq_astore0N, zq_astore1, zq_astore1N, zq_astore2, zq_astore2N, zq_astore3, zq_astore3N, zq_astore, zq_astoreN, zq_iinc, zq_iadd, zq_isub, zq_imul, zq_iand, zq_ior, zq_ixor, zq_ishl, zq_ishr, zq_iushr, zq_idiv, zq_irem, zq_ladd, zq_lsub, zq_lmul, zq_ldiv, zq_lrem, zq_lcmp, zq_i2l, zq_i2b, zq_i2s, zq_dup_i, zq_dup_r, zq_dup2, zq_null, zq_icmp_eq, zq_if_eq, zq_icmp_ne, zq_if_ne, zq_icmp_lt, zq_if_lt, zq_icmp_ge, zq_if_ge, zq_icmp_gt, zq_if_gt, zq_icmp_le, zq_if_le, zq_goto, zq_ifnull_r, zq_ifnull_n, zq_ifnonnull_r, zq_ifnonnull_n, zq_iaload, zq_baload, zq_laload, zq_aaload, zq_iastore, zq_bastore, zq_lastore, zq_alen, zq_getf, zq_put, zq_tsw, zq_lsw, zq_ireturn, zq_lreturn, zq_areturn, zq_areturnN, zq_return, zq_invokestatic, zq_invokevirtual, zq_new, zq_invokespecial, zq_newarray, zq_anewarray, zq_aastore, zi_m1, zi_0, zi_1, zi_2, zi_3, zi_4, zi_5, zi_6, zi_8, zi_16, zb_m10, zb_m4, zb_m3, zb_m2, zb_6, zb_7, zb_8, zb_9, zb_10, zb_16, zb_20, zb_23, zb_30, zb_32, zb_35, zb_46, zb_48, zb_56, zb_57, zb_59, zb_63, zb_70, zb_98, zb_99, zb_100, zb_111, zb_112, zs_192, zs_255, zs_256, zs_511, zs_512, zs_12345, zf_X7_10_0, zf_X7_19_0, zf_X7_26_0, zf_X7_33_0, zf_X7_39_0, zf_X7_43_0, zf_X7_47_0, zf_X7_50_0, zf_X7_53_0, zf_X7_56_0, zf_X7_59_0, zkc_X7_223, zkl_X7_313, zkl_X7_240, zkl_X7_305, za_C_2, za_C_3, za_C_4, za_C_5, za_C_6, za_C_8, za_C_9, za_C_10, za_C_12, za_C_14, za_C_15, za_C_16, za_C_17, za_C_22, za_C_23, za_C_24, za_C_25, dX7_isKing_0, dX7_isKing_1, dX7_isKing_2, dX7_isKing_3, dX7_isKing_6, dX7_isKing_9, dX7_isKing_10, dX7_isKing_11, dX7_isKing_14, cr_X7_isKing_202, cr_X7_isKing_67, wr_X2_number_K, wr_X7_within]
    rw [(CR_k hC).2.2.2.1]
    have e : (0 ≤ v ∧ v ≤ nI (tM T) - 1) ↔ i_in v (tM T) := by
      rw [i_le, i_le, li0, show (nI (tM T) - 1).toInt = (tM T : Int) - 1 from pk_sub_toInt (b := 1) (by omega) (by omega)]
      unfold i_in; omega
    rw [e]
    exact ⟨h1, h2⟩
  · exact h.elim
theorem ok_X7_isKing (T : ZT) {tl : List ZE} : z_Ok (z_shC tl) yX7_isKing cX7_isKing 2 (some .boolean) ({ frames := 1, cells := 0, slots := 0, locals := 22 } : Room) 0 (wp_X7_isKing T) := z_Ok_of (pu_X7_isKing T) z_fX7_ok z_kX7_ok co_X7_isKing ⟨by decide, by decide⟩ (by decide +kernel)
theorem rec_X7_isKing (T : ZT) {tl : List ZE} : z_rec (z_shC tl) (wp_X7_isKing T) 6 := by
  intro as S post h
  unfold wp_X7_isKing at h
  split at h
  · exact ⟨_, _, _, rfl, rfl⟩
  · exact h.elim
def wp_X7_book (T : ZT) : ZW := fun as S k => match as with
  | [.ref 0, .int b, .int w] => CR T S ∧ k (some (.int (q_book T b w))) S
  | _ => False
theorem wr_X7_book {T : ZT} {b : Int32} {w : Int32} {S : ZS} {k : Option Value → ZS → Prop} : (wp_X7_book T) [.ref 0, .int b, .int w] S k = (CR T S ∧ k (some (.int (q_book T b w))) S) := rfl
def cs_X7_book : List (Nat × ZC) := [(87, (1, 0, false, wp_X2_number_B)), (67, (3, 0, true, wp_X7_within)), (90, (2, 0, false, wp_X0_worth)), (93, (2, 0, false, wp_X0_kind)), (96, (2, 0, false, wp_X0_leansOn))]
theorem cr_X7_book_87 : cs_X7_book.lookup 87 = some (1, 0, false, wp_X2_number_B) := rfl
theorem cr_X7_book_67 : cs_X7_book.lookup 67 = some (3, 0, true, wp_X7_within) := rfl
theorem cr_X7_book_90 : cs_X7_book.lookup 90 = some (2, 0, false, wp_X0_worth) := rfl
theorem cr_X7_book_93 : cs_X7_book.lookup 93 = some (2, 0, false, wp_X0_kind) := rfl
theorem cr_X7_book_96 : cs_X7_book.lookup 96 = some (2, 0, false, wp_X0_leansOn) := rfl
set_option maxRecDepth 20000 in
theorem co_X7_book {tl : List ZE} : z_csok RX7 ({ frames := 2, cells := 0, slots := 0, locals := 43 } : Room) (z_shC tl) cs_X7_book := z_cs2 (z_csU (owner := "NineBooks$Entries") (x := ⟨"NineBooks$Books", "number", "()I"⟩) ok_X2_number_B rec_X2_number_B rfl (Or.inl (z_gn 293 (by decide +kernel) rfl)) (z_g 291 (by decide +kernel) rfl) (z_g 295 (by decide +kernel) rfl) (z_g 294 (by decide +kernel) rfl) (z_g 296 (by decide +kernel) rfl) (z_g 45 (by decide +kernel) rfl) (z_g 292 (by decide +kernel) rfl) rfl rfl (by decide +kernel) ⟨by decide, by decide⟩)
  (z_cs2 (z_csS ok_X7_within (z_g 210 (by decide +kernel) rfl) (z_g 211 (by decide +kernel) rfl) (z_g 44 (by decide +kernel) rfl) (z_g 212 (by decide +kernel) rfl) rfl rfl (by decide +kernel) ⟨by decide, by decide⟩)
  (z_cs2 (z_csV ok_X0_worth rec_X0_worth rfl (z_g 297 (by decide +kernel) rfl) (z_g 298 (by decide +kernel) rfl) (z_g 299 (by decide +kernel) rfl) (z_g 300 (by decide +kernel) rfl) (z_g 46 (by decide +kernel) rfl) rfl rfl (by decide +kernel) ⟨by decide, by decide⟩)
  (z_cs2 (z_csV ok_X0_kind rec_X0_kind rfl (z_g 301 (by decide +kernel) rfl) (z_g 302 (by decide +kernel) rfl) (z_g 303 (by decide +kernel) rfl) (z_g 304 (by decide +kernel) rfl) (z_g 46 (by decide +kernel) rfl) rfl rfl (by decide +kernel) ⟨by decide, by decide⟩)
  (z_cs2 (z_csV ok_X0_leansOn rec_X0_leansOn rfl (z_g 305 (by decide +kernel) rfl) (z_g 306 (by decide +kernel) rfl) (z_g 307 (by decide +kernel) rfl) (z_g 308 (by decide +kernel) rfl) (z_g 46 (by decide +kernel) rfl) rfl rfl (by decide +kernel) ⟨by decide, by decide⟩)
  (z_cs0)))))
set_option maxHeartbeats 4000000 in
set_option maxRecDepth 20000 in
theorem pu_X7_book (T : ZT) {tl : List ZE} : z_Pure cX7_book 3 (z_shC tl) z_fX7 cs_X7_book z_kcX7 z_klX7 (some .int) 0 (wp_X7_book T) := by
  intro as S post h
  unfold wp_X7_book at h
  split at h
  · rename_i b w
    refine ⟨Nat.le_of_ble_eq_true rfl, fun K hK => ?_⟩
    change K 0 0 [some (.ref 0), some (.int b), some (.int w)] [] S
    obtain ⟨hC, hk⟩ := h
    have hn : tN T ≤ 9 := ab_numB (CR_x0 hC)
    refine hK (z_in []) 100 _ _ _ _ _ (Nat.zero_le _) ?_
    simp (config := { maxSteps := 10000000 }) only [z40, z20, z10, z01, zm0, z0m, ze_s, ze_ok, zt_s, zt_t, zt_f, zl_I, zl_J, zl_R, zl_N, zl_C, zl_K, zl_M, zl_ar0, zl_ar1, zl_ar2, zl_ar3, zl_as0, zl_as1, zl_as2, zl_al, zl_gf, zl_gr, zl_pf, zl_iv, zl_ivn, zlk_n, zlk_c, ztb_n, ztb_c, zin_n, zin_1, zin_c, Int.reduceLT, decide_true, decide_false, Bool.true_and, Bool.and_true, List.length_cons, List.length_nil, Int.reduceSub, Int.reduceEq, Int.natCast_zero, zk_s, z_in_n, z_in_c, z_gt_0, z_gt_s, zst_0, zst_1, zst_s, zsl_0, zsl_1, zsl_s, zc_n, zc_i, zc_l, zc_r, zc_u, zca_n, zca_i, zca_l, zca_r, zca_u, zrt_i, zrt_z, zrt_o, z_cal_0, z_cal_s, true_and, and_true, List.nil_append, List.cons_append, Option.toList_some, Option.toList_none, Nat.reduceAdd, Nat.reduceBEq, Nat.reduceLT, Nat.reduceLeDiff, Nat.reduceSub, Int.reduceAdd, Int.reduceLE, Int.reduceToNat, Int.cast_ofNat_Int, Bool.or_true, Bool.true_or, Bool.or_false, Bool.false_or, Nat.le_refl, Nat.zero_le, or_true, true_or, or_false, false_or, not_true_eq_false, not_false_eq_true, not_false_iff, false_implies, true_implies, eq_self, zo_iconst, zo_bipush, zo_sipush, zo_lconst, zo_ldc, zo_ldc_w, zo_ldc2_w, zo_iload_n, zo_iload, zo_lload_n, zo_lload, zo_aload_n, zo_aload, zo_istore_n, zo_istore, zo_lstore_n, zo_lstore, zo_astore_n, zo_astore, zo_iinc, zo_iadd, zo_isub, zo_imul, zo_iand, zo_ior, zo_ixor, zo_ishl, zo_ishr, zo_iushr, zo_idiv, zo_irem, zo_ladd, zo_lsub, zo_lmul, zo_ldiv, zo_lrem, zo_lcmp, zo_i2l, zo_i2b, zo_i2s, zo_dup, zo_dup2, zo_aconst_null, zo_if_icmp, zo_ifCond, zo_goto, zo_ifnull, zo_ifnonnull, zo_iaload, zo_baload, zo_laload, zo_aaload, zo_iastore, zo_bastore, zo_lastore, zo_arraylength, zo_getfield, zo_putfield, zo_tableswitch, zo_lookupswitch, zo_ireturn, zo_lreturn, zo_areturn, zo_return, zo_invokestatic, zo_invokevirtual, zo_new, zo_invokespecial, zo_newarray, zo_anewarray, zo_aastore, zy_0_1, zy_0_2, zy_0_3, zy_1_1, zy_1_2, zy_2_1, zy_2_2, zy_2_3, zy_3_0, zy_4_3, zy_5_1, zy_5_2, zy_6_5, zy_6_6, zy_6_7, zy_6_8, zy_6_9, zy_6_10, zy_7_2, zy_7_6, zy_7_9, zy_7_10, zy_7_11, zy_7_12, zy_7_14, zy_7_21, zy_7_30, zq_iconst, zq_bipush, zq_sipush, zq_lconst0, zq_lconst1, zq_ldc, zq_ldc_w, zq_ldc2_w, zq_iload0, zq_iload1, zq_iload2, zq_iload3, zq_iload, zq_lload0, zq_lload1, zq_lload2, zq_lload3, zq_lload, zq_aload0, zq_aload1, zq_aload2, zq_aload3, zq_aload, zq_istore0, zq_istore1, zq_istore2, zq_istore3, zq_istore, zq_lstore0, zq_lstore1, zq_lstore2, zq_lstore3, zq_lstore, zq_astore0, zq_astore0N, zq_astore1, zq_astore1N, zq_astore2, zq_astore2N, zq_astore3, zq_astore3N, zq_astore, zq_astoreN, zq_iinc, zq_iadd, zq_isub, zq_imul, zq_iand, zq_ior, zq_ixor, zq_ishl, zq_ishr, zq_iushr, zq_idiv, zq_irem, zq_ladd, zq_lsub, zq_lmul, zq_ldiv, zq_lrem, zq_lcmp, zq_i2l, zq_i2b, zq_i2s, zq_dup_i, zq_dup_r, zq_dup2, zq_null, zq_icmp_eq, zq_if_eq, zq_icmp_ne, zq_if_ne, zq_icmp_lt, zq_if_lt, zq_icmp_ge, zq_if_ge, zq_icmp_gt, zq_if_gt, zq_icmp_le, zq_if_le, zq_goto, zq_ifnull_r, zq_ifnull_n, zq_ifnonnull_r, zq_ifnonnull_n, zq_iaload, zq_baload, zq_laload, zq_aaload, zq_iastore, zq_bastore, zq_lastore, zq_alen, zq_getf, zq_put, zq_tsw, zq_lsw, zq_ireturn, zq_lreturn, zq_areturn, zq_areturnN, zq_return, zq_invokestatic, zq_invokevirtual, zq_new, zq_invokespecial, zq_newarray, zq_anewarray, zq_aastore, zi_m1, zi_0, zi_1, zi_2, zi_3, zi_4, zi_5, zi_6, zi_8, zi_16, zb_m10, zb_m4, zb_m3, zb_m2, zb_6, zb_7, zb_8, zb_9, zb_10, zb_16, zb_20, zb_23, zb_30, zb_32, zb_35, zb_46, zb_48, zb_56, zb_57, zb_59, zb_63, zb_70, zb_98, zb_99, zb_100, zb_111, zb_112, zs_192, zs_255, zs_256, zs_511, zs_512, zs_12345, zf_X7_10_0, zf_X7_19_0, zf_X7_26_0, zf_X7_33_0, zf_X7_39_0, zf_X7_43_0, zf_X7_47_0, zf_X7_50_0, zf_X7_53_0, zf_X7_56_0, zf_X7_59_0, zkc_X7_223, zkl_X7_313, zkl_X7_240, zkl_X7_305, za_C_2, za_C_3, za_C_4, za_C_5, za_C_6, za_C_8, za_C_9, za_C_10, za_C_12, za_C_14, za_C_15, za_C_16, za_C_17, za_C_22, za_C_23, za_C_24, za_C_25, dX7_book_0, dX7_book_1, dX7_book_2, dX7_book_3, dX7_book_6, dX7_book_9, dX7_book_10, dX7_book_11, dX7_book_14, dX7_book_17, dX7_book_19, dX7_book_20, dX7_book_21, dX7_book_48, dX7_book_49, dX7_book_52, dX7_book_53, dX7_book_56, dX7_book_57, dX7_book_58, dX7_book_61, dX7_book_62, dX7_book_65, dX7_book_66, dX7_book_67, dX7_book_70, dX7_book_71, dX7_book_74, dX7_book_75, dX7_book_77, cr_X7_book_87, cr_X7_book_67, cr_X7_book_90, cr_X7_book_93, cr_X7_book_96, wr_X2_number_B, wr_X7_within, wr_X0_worth, wr_X0_kind, wr_X0_leansOn]
    rw [(CR_b hC).2.2.2.1]
    have e : (0 ≤ b ∧ b ≤ nI (tN T) - 1) ↔ i_in b (tN T) := by
      rw [i_le, i_le, li0, show (nI (tN T) - 1).toInt = (tN T : Int) - 1 from pk_sub_toInt (b := 1) (by omega) (by omega)]
      unfold i_in; omega
    rw [e]
    refine ⟨fun c => ?_, fun c => ?_⟩
    · obtain ⟨eb, hb⟩ := i_inI c (by omega)
      have g : q_book T b w = if w = 0 then nI (ab_worth (tx0 T) (cn b)) else if w = 1 then nI (ab_kind (tx0 T) (cn b)) else if w = 2 then ab_lean32 (tx0 T) (cn b) else -2 := by unfold q_book; rw [if_pos c]
      rw [g] at hk
      have i2 : w.toInt = 2 ↔ w = 2 := by rw [i_eq]; simp
      refine ⟨fun d => ?_, fun d => ?_, fun d => ?_, fun d => ?_⟩
      · rw [if_neg (fun e => by subst e; simp at d), if_neg (fun e => by subst e; simp at d), if_neg (fun e => by subst e; simp at d)] at hk; exact hk
      · rw [if_pos ((i0 w).mp d)] at hk
        exact ⟨tx0 T, cn b, eb, CR_x0 hC, hb, CR_b hC, hk⟩
      · obtain rfl := (i1 w).mp d
        rw [if_neg (by decide), if_pos rfl] at hk
        exact ⟨tx0 T, cn b, eb, CR_x0 hC, hb, CR_b hC, hk⟩
      · obtain rfl := i2.mp d
        rw [if_neg (by decide), if_neg (by decide), if_pos rfl] at hk
        exact ⟨tx0 T, cn b, eb, CR_x0 hC, hb, CR_b hC, hk⟩
    · have g : q_book T b w = -2 := by unfold q_book; rw [if_neg c]
      rw [g] at hk; exact hk
  · exact h.elim
theorem ok_X7_book (T : ZT) {tl : List ZE} : z_Ok (z_shC tl) yX7_book cX7_book 3 (some .int) ({ frames := 2, cells := 0, slots := 0, locals := 43 } : Room) 0 (wp_X7_book T) := z_Ok_of (pu_X7_book T) z_fX7_ok z_kX7_ok co_X7_book ⟨by decide, by decide⟩ (by decide +kernel)
theorem rec_X7_book (T : ZT) {tl : List ZE} : z_rec (z_shC tl) (wp_X7_book T) 6 := by
  intro as S post h
  unfold wp_X7_book at h
  split at h
  · exact ⟨_, _, _, rfl, rfl⟩
  · exact h.elim
theorem CR_M {T : ZT} {S : ZS} (h : CR T S) : tM T ≤ 6 := ab_numK (CR_x1 h)
theorem CR_N {T : ZT} {S : ZS} (h : CR T S) : tN T ≤ 9 := ab_numB (CR_x0 h)
theorem w_in' {v : Int32} {n : Nat} (hn : n < 1073741824) : (0 ≤ v ∧ v ≤ nI n - 1) ↔ i_in v n := by
  rw [i_le, i_le, li0, show (nI n - 1).toInt = (n : Int) - 1 from pk_sub_toInt (b := 1) hn (by omega)]
  unfold i_in; omega
def wp_X7_king (T : ZT) : ZW := fun as S k => match as with
  | [.ref 0, .int v, .int w] => CR T S ∧ k (some (.int (q_king T v w))) S
  | _ => False
theorem wr_X7_king {T : ZT} {v : Int32} {w : Int32} {S : ZS} {k : Option Value → ZS → Prop} : (wp_X7_king T) [.ref 0, .int v, .int w] S k = (CR T S ∧ k (some (.int (q_king T v w))) S) := rfl
def cs_X7_king (T : ZT) : List (Nat × ZC) := [(99, (2, 0, false, (wp_X7_isKing T))), (67, (3, 0, true, wp_X7_within)), (103, (2, 0, false, wp_X3_has)), (106, (2, 0, false, wp_X3_need))]
theorem cr_X7_king_99 {T : ZT} : (cs_X7_king T).lookup 99 = some (2, 0, false, (wp_X7_isKing T)) := rfl
theorem cr_X7_king_67 {T : ZT} : (cs_X7_king T).lookup 67 = some (3, 0, true, wp_X7_within) := rfl
theorem cr_X7_king_103 {T : ZT} : (cs_X7_king T).lookup 103 = some (2, 0, false, wp_X3_has) := rfl
theorem cr_X7_king_106 {T : ZT} : (cs_X7_king T).lookup 106 = some (2, 0, false, wp_X3_need) := rfl
set_option maxRecDepth 20000 in
theorem co_X7_king (T : ZT) {tl : List ZE} : z_csok RX7 ({ frames := 2, cells := 0, slots := 0, locals := 43 } : Room) (z_shC tl) (cs_X7_king T) := z_cs2 (z_csV (ok_X7_isKing T) (rec_X7_isKing T) rfl (z_g 313 (by decide +kernel) rfl) (z_g 315 (by decide +kernel) rfl) (z_g 1 (by decide +kernel) rfl) (z_g 316 (by decide +kernel) rfl) (z_g 44 (by decide +kernel) rfl) rfl rfl (by decide +kernel) ⟨by decide, by decide⟩)
  (z_cs2 (z_csS ok_X7_within (z_g 210 (by decide +kernel) rfl) (z_g 211 (by decide +kernel) rfl) (z_g 44 (by decide +kernel) rfl) (z_g 212 (by decide +kernel) rfl) rfl rfl (by decide +kernel) ⟨by decide, by decide⟩)
  (z_cs2 (z_csV ok_X3_has rec_X3_has rfl (z_g 320 (by decide +kernel) rfl) (z_g 321 (by decide +kernel) rfl) (z_g 322 (by decide +kernel) rfl) (z_g 323 (by decide +kernel) rfl) (z_g 47 (by decide +kernel) rfl) rfl rfl (by decide +kernel) ⟨by decide, by decide⟩)
  (z_cs2 (z_csV ok_X3_need rec_X3_need rfl (z_g 324 (by decide +kernel) rfl) (z_g 325 (by decide +kernel) rfl) (z_g 326 (by decide +kernel) rfl) (z_g 327 (by decide +kernel) rfl) (z_g 47 (by decide +kernel) rfl) rfl rfl (by decide +kernel) ⟨by decide, by decide⟩)
  (z_cs0))))
set_option maxHeartbeats 4000000 in
set_option maxRecDepth 20000 in
theorem pu_X7_king (T : ZT) {tl : List ZE} : z_Pure cX7_king 3 (z_shC tl) z_fX7 (cs_X7_king T) z_kcX7 z_klX7 (some .int) 0 (wp_X7_king T) := by
  intro as S post h
  unfold wp_X7_king at h
  split at h
  · rename_i v w
    refine ⟨Nat.le_of_ble_eq_true rfl, fun K hK => ?_⟩
    change K 0 0 [some (.ref 0), some (.int v), some (.int w)] [] S
    obtain ⟨hC, hk⟩ := h
    have hn : tM T ≤ 6 := CR_M hC
    refine hK (z_in []) 100 _ _ _ _ _ (Nat.zero_le _) ?_
    simp (config := { maxSteps := 10000000 }) only [z40, z20, z10, z01, zm0, z0m, ze_s, ze_ok, zt_s, zt_t, zt_f, zl_I, zl_J, zl_R, zl_N, zl_C, zl_K, zl_M, zl_ar0, zl_ar1, zl_ar2, zl_ar3, zl_as0, zl_as1, zl_as2, zl_al, zl_gf, zl_gr, zl_pf, zl_iv, zl_ivn, zlk_n, zlk_c, ztb_n, ztb_c, zin_n, zin_1, zin_c, Int.reduceLT, decide_true, decide_false, Bool.true_and, Bool.and_true, List.length_cons, List.length_nil, Int.reduceSub, Int.reduceEq, Int.natCast_zero, zk_s, z_in_n, z_in_c, z_gt_0, z_gt_s, zst_0, zst_1, zst_s, zsl_0, zsl_1, zsl_s, zc_n, zc_i, zc_l, zc_r, zc_u, zca_n, zca_i, zca_l, zca_r, zca_u, zrt_i, zrt_z, zrt_o, z_cal_0, z_cal_s, true_and, and_true, List.nil_append, List.cons_append, Option.toList_some, Option.toList_none, Nat.reduceAdd, Nat.reduceBEq, Nat.reduceLT, Nat.reduceLeDiff, Nat.reduceSub, Int.reduceAdd, Int.reduceLE, Int.reduceToNat, Int.cast_ofNat_Int, Bool.or_true, Bool.true_or, Bool.or_false, Bool.false_or, Nat.le_refl, Nat.zero_le, or_true, true_or, or_false, false_or, not_true_eq_false, not_false_eq_true, not_false_iff, false_implies, true_implies, eq_self, zo_iconst, zo_bipush, zo_sipush, zo_lconst, zo_ldc, zo_ldc_w, zo_ldc2_w, zo_iload_n, zo_iload, zo_lload_n, zo_lload, zo_aload_n, zo_aload, zo_istore_n, zo_istore, zo_lstore_n, zo_lstore, zo_astore_n, zo_astore, zo_iinc, zo_iadd, zo_isub, zo_imul, zo_iand, zo_ior, zo_ixor, zo_ishl, zo_ishr, zo_iushr, zo_idiv, zo_irem, zo_ladd, zo_lsub, zo_lmul, zo_ldiv, zo_lrem, zo_lcmp, zo_i2l, zo_i2b, zo_i2s, zo_dup, zo_dup2, zo_aconst_null, zo_if_icmp, zo_ifCond, zo_goto, zo_ifnull, zo_ifnonnull, zo_iaload, zo_baload, zo_laload, zo_aaload, zo_iastore, zo_bastore, zo_lastore, zo_arraylength, zo_getfield, zo_putfield, zo_tableswitch, zo_lookupswitch, zo_ireturn, zo_lreturn, zo_areturn, zo_return, zo_invokestatic, zo_invokevirtual, zo_new, zo_invokespecial, zo_newarray, zo_anewarray, zo_aastore, zy_0_1, zy_0_2, zy_0_3, zy_1_1, zy_1_2, zy_2_1, zy_2_2, zy_2_3, zy_3_0, zy_4_3, zy_5_1, zy_5_2, zy_6_5, zy_6_6, zy_6_7, zy_6_8, zy_6_9, zy_6_10, zy_7_2, zy_7_6, zy_7_9, zy_7_10, zy_7_11, zy_7_12, zy_7_14, zy_7_21, zy_7_30, zq_iconst, zq_bipush, zq_sipush, zq_lconst0, zq_lconst1, zq_ldc, zq_ldc_w, zq_ldc2_w, zq_iload0, zq_iload1, zq_iload2, zq_iload3, zq_iload, zq_lload0, zq_lload1, zq_lload2, zq_lload3, zq_lload, zq_aload0, zq_aload1, zq_aload2, zq_aload3, zq_aload, zq_istore0, zq_istore1, zq_istore2, zq_istore3, zq_istore, zq_lstore0, zq_lstore1, zq_lstore2, zq_lstore3, zq_lstore, zq_astore0, zq_astore0N, zq_astore1, zq_astore1N, zq_astore2, zq_astore2N, zq_astore3, zq_astore3N, zq_astore, zq_astoreN, zq_iinc, zq_iadd, zq_isub, zq_imul, zq_iand, zq_ior, zq_ixor, zq_ishl, zq_ishr, zq_iushr, zq_idiv, zq_irem, zq_ladd, zq_lsub, zq_lmul, zq_ldiv, zq_lrem, zq_lcmp, zq_i2l, zq_i2b, zq_i2s, zq_dup_i, zq_dup_r, zq_dup2, zq_null, zq_icmp_eq, zq_if_eq, zq_icmp_ne, zq_if_ne, zq_icmp_lt, zq_if_lt, zq_icmp_ge, zq_if_ge, zq_icmp_gt, zq_if_gt, zq_icmp_le, zq_if_le, zq_goto, zq_ifnull_r, zq_ifnull_n, zq_ifnonnull_r, zq_ifnonnull_n, zq_iaload, zq_baload, zq_laload, zq_aaload, zq_iastore, zq_bastore, zq_lastore, zq_alen, zq_getf, zq_put, zq_tsw, zq_lsw, zq_ireturn, zq_lreturn, zq_areturn, zq_areturnN, zq_return, zq_invokestatic, zq_invokevirtual, zq_new, zq_invokespecial, zq_newarray, zq_anewarray, zq_aastore, zi_m1, zi_0, zi_1, zi_2, zi_3, zi_4, zi_5, zi_6, zi_8, zi_16, zb_m10, zb_m4, zb_m3, zb_m2, zb_6, zb_7, zb_8, zb_9, zb_10, zb_16, zb_20, zb_23, zb_30, zb_32, zb_35, zb_46, zb_48, zb_56, zb_57, zb_59, zb_63, zb_70, zb_98, zb_99, zb_100, zb_111, zb_112, zs_192, zs_255, zs_256, zs_511, zs_512, zs_12345, zf_X7_10_0, zf_X7_19_0, zf_X7_26_0, zf_X7_33_0, zf_X7_39_0, zf_X7_43_0, zf_X7_47_0, zf_X7_50_0, zf_X7_53_0, zf_X7_56_0, zf_X7_59_0, zkc_X7_223, zkl_X7_313, zkl_X7_240, zkl_X7_305, za_C_2, za_C_3, za_C_4, za_C_5, za_C_6, za_C_8, za_C_9, za_C_10, za_C_12, za_C_14, za_C_15, za_C_16, za_C_17, za_C_22, za_C_23, za_C_24, za_C_25, dX7_king_0, dX7_king_1, dX7_king_2, dX7_king_5, dX7_king_8, dX7_king_9, dX7_king_10, dX7_king_11, dX7_king_14, dX7_king_17, dX7_king_19, dX7_king_20, dX7_king_21, dX7_king_24, dX7_king_25, dX7_king_28, dX7_king_29, dX7_king_32, dX7_king_35, dX7_king_36, dX7_king_39, dX7_king_40, dX7_king_43, cr_X7_king_99, cr_X7_king_67, cr_X7_king_103, cr_X7_king_106, wr_X7_isKing, wr_X7_within, wr_X3_has, wr_X3_need]
    have e1 : (0 ≤ w ∧ w ≤ 1) ↔ i_in w 2 := w_in (m := 1) (by decide)
    rw [e1]
    have bad : ¬ (i_in v (tM T) ∧ i_in w 2) → post (some (.int (-2))) S := by
      intro q
      have g : q_king T v w = -2 := by unfold q_king; rw [if_neg q]
      rw [g] at hk; exact hk
    refine ⟨hC, fun c => ⟨fun d => ?_, fun d => bad (fun q => d q.2)⟩, fun c => bad (fun q => c q.1)⟩
    obtain ⟨eb, hb⟩ := i_inI c (by omega)
    have g : q_king T v w = if w = 0 then nI (ab_has (tx1 T) (cn v)) else nI (ab_need (tx1 T) (cn v)) := by unfold q_king; rw [if_pos ⟨c, d⟩]
    rw [g] at hk
    refine ⟨fun e => ⟨tx1 T, cn v, eb, CR_x1 hC, hb, CR_k hC, ?_⟩, fun e => ⟨tx1 T, cn v, eb, CR_x1 hC, hb, CR_k hC, ?_⟩⟩
    · rw [if_pos e] at hk; exact hk
    · rw [if_neg e] at hk; exact hk
  · exact h.elim
theorem ok_X7_king (T : ZT) {tl : List ZE} : z_Ok (z_shC tl) yX7_king cX7_king 3 (some .int) ({ frames := 2, cells := 0, slots := 0, locals := 43 } : Room) 0 (wp_X7_king T) := z_Ok_of (pu_X7_king T) z_fX7_ok z_kX7_ok (co_X7_king T) ⟨by decide, by decide⟩ (by decide +kernel)
theorem rec_X7_king (T : ZT) {tl : List ZE} : z_rec (z_shC tl) (wp_X7_king T) 6 := by
  intro as S post h
  unfold wp_X7_king at h
  split at h
  · exact ⟨_, _, _, rfl, rfl⟩
  · exact h.elim
/-- a class state that differs in its own numbers alone -/
theorem CR_num {T T' : ZT} {S S' : ZS} (h : CR T S) (hx : tI T') (e1 : T'.1 = T.1) (e2 : T'.2.2.1 = T.2.2.1) (e3 : T'.2.2.2.2.1 = T.2.2.2.2.1) (e4 : T'.2.2.2.2.2.1 = T.2.2.2.2.2.1) (hn : c_nums T' S') (hf : ∀ a, ¬ a = 0 → S'.1 a = S.1 a) : CR T' S' := by
  obtain ⟨-, b1, b2, b3, b4, b5, b6⟩ := h
  refine ⟨hx, ?_, ?_, ?_, ?_, hn, ?_⟩
  · unfold tx0; rw [e1]; unfold c_books at *; rw [hf 1 (by omega), hf 2 (by omega), hf 3 (by omega), hf 4 (by omega), hf 5 (by omega), hf 6 (by omega)]; exact b1
  · unfold tx1; rw [e1]; unfold c_kings at *; rw [hf 7 (by omega), hf 8 (by omega), hf 9 (by omega), hf 10 (by omega)]; exact b2
  · unfold c_burnt tB tnb tod at *; rw [e2, hf 11 (by omega), hf 12 (by omega)]; exact b3
  · unfold c_said tns tsd at *; rw [e3, hf 13 (by omega), hf 14 (by omega), hf 15 (by omega), hf 16 (by omega)]; exact b4
  · intro s hs; have := b6 s hs; unfold c_sheet tsh tit at *; rw [e4, hf (18 + s) (by omega), hf (22 + s) (by omega)]; exact this
def wp_X7_set (T : ZT) : ZW := fun as S k => match as with
  | [.ref 0, .int w, .int v] => CR T S ∧ ∀ S', CR (u_set T w v) S' → k (some (.int (q_set T w v))) S'
  | _ => False
theorem wr_X7_set {T : ZT} {w : Int32} {v : Int32} {S : ZS} {k : Option Value → ZS → Prop} : (wp_X7_set T) [.ref 0, .int w, .int v] S k = (CR T S ∧ ∀ S', CR (u_set T w v) S' → k (some (.int (q_set T w v))) S') := rfl
def cs_X7_set : List (Nat × ZC) := [(67, (3, 0, true, wp_X7_within))]
theorem cr_X7_set_67 : cs_X7_set.lookup 67 = some (3, 0, true, wp_X7_within) := rfl
set_option maxRecDepth 20000 in
theorem co_X7_set {tl : List ZE} : z_csok RX7 ({ frames := 1, cells := 0, slots := 0, locals := 22 } : Room) (z_shC tl) cs_X7_set := z_cs2 (z_csS ok_X7_within (z_g 210 (by decide +kernel) rfl) (z_g 211 (by decide +kernel) rfl) (z_g 44 (by decide +kernel) rfl) (z_g 212 (by decide +kernel) rfl) rfl rfl (by decide +kernel) ⟨by decide, by decide⟩)
  (z_cs0)
set_option maxHeartbeats 4000000 in
set_option maxRecDepth 20000 in
theorem pu_X7_set (T : ZT) {tl : List ZE} : z_Pure cX7_set 4 (z_shC tl) z_fX7 cs_X7_set z_kcX7 z_klX7 (some .int) 0 (wp_X7_set T) := by
  intro as S post h
  unfold wp_X7_set at h
  split at h
  · rename_i w v
    refine ⟨Nat.le_of_ble_eq_true rfl, fun K hK => ?_⟩
    change K 0 0 [some (.ref 0), some (.int w), some (.int v), none] [] S
    obtain ⟨hC, hk⟩ := h
    refine hK (z_in []) 100 _ _ _ _ _ (Nat.zero_le _) ?_
    simp (config := { maxSteps := 10000000 }) only [z40, z20, z10, z01, zm0, z0m, ze_s, ze_ok, zt_s, zt_t, zt_f, zl_I, zl_J, zl_R, zl_N, zl_C, zl_K, zl_M, zl_ar0, zl_ar1, zl_ar2, zl_ar3, zl_as0, zl_as1, zl_as2, zl_al, zl_gf, zl_gr, zl_pf, zl_iv, zl_ivn, zlk_n, zlk_c, ztb_n, ztb_c, zin_n, zin_1, zin_c, Int.reduceLT, decide_true, decide_false, Bool.true_and, Bool.and_true, List.length_cons, List.length_nil, Int.reduceSub, Int.reduceEq, Int.natCast_zero, zk_s, z_in_n, z_in_c, z_gt_0, z_gt_s, zst_0, zst_1, zst_s, zsl_0, zsl_1, zsl_s, zc_n, zc_i, zc_l, zc_r, zc_u, zca_n, zca_i, zca_l, zca_r, zca_u, zrt_i, zrt_z, zrt_o, z_cal_0, z_cal_s, true_and, and_true, List.nil_append, List.cons_append, Option.toList_some, Option.toList_none, Nat.reduceAdd, Nat.reduceBEq, Nat.reduceLT, Nat.reduceLeDiff, Nat.reduceSub, Int.reduceAdd, Int.reduceLE, Int.reduceToNat, Int.cast_ofNat_Int, Bool.or_true, Bool.true_or, Bool.or_false, Bool.false_or, Nat.le_refl, Nat.zero_le, or_true, true_or, or_false, false_or, not_true_eq_false, not_false_eq_true, not_false_iff, false_implies, true_implies, eq_self, zo_iconst, zo_bipush, zo_sipush, zo_lconst, zo_ldc, zo_ldc_w, zo_ldc2_w, zo_iload_n, zo_iload, zo_lload_n, zo_lload, zo_aload_n, zo_aload, zo_istore_n, zo_istore, zo_lstore_n, zo_lstore, zo_astore_n, zo_astore, zo_iinc, zo_iadd, zo_isub, zo_imul, zo_iand, zo_ior, zo_ixor, zo_ishl, zo_ishr, zo_iushr, zo_idiv, zo_irem, zo_ladd, zo_lsub, zo_lmul, zo_ldiv, zo_lrem, zo_lcmp, zo_i2l, zo_i2b, zo_i2s, zo_dup, zo_dup2, zo_aconst_null, zo_if_icmp, zo_ifCond, zo_goto, zo_ifnull, zo_ifnonnull, zo_iaload, zo_baload, zo_laload, zo_aaload, zo_iastore, zo_bastore, zo_lastore, zo_arraylength, zo_getfield, zo_putfield, zo_tableswitch, zo_lookupswitch, zo_ireturn, zo_lreturn, zo_areturn, zo_return, zo_invokestatic, zo_invokevirtual, zo_new, zo_invokespecial, zo_newarray, zo_anewarray, zo_aastore, zy_0_1, zy_0_2, zy_0_3, zy_1_1, zy_1_2, zy_2_1, zy_2_2, zy_2_3, zy_3_0, zy_4_3, zy_5_1, zy_5_2, zy_6_5, zy_6_6, zy_6_7, zy_6_8, zy_6_9, zy_6_10, zy_7_2, zy_7_6, zy_7_9, zy_7_10, zy_7_11, zy_7_12, zy_7_14, zy_7_21, zy_7_30, zq_iconst, zq_bipush, zq_sipush, zq_lconst0, zq_lconst1, zq_ldc, zq_ldc_w, zq_ldc2_w, zq_iload0, zq_iload1, zq_iload2, zq_iload3, zq_iload, zq_lload0, zq_lload1, zq_lload2, zq_lload3, zq_lload, zq_aload0, zq_aload1, zq_aload2, zq_aload3, zq_aload, zq_istore0, zq_istore1, zq_istore2, zq_istore3, zq_istore, zq_lstore0, zq_lstore1, zq_lstore2, zq_lstore3, zq_lstore, zq_astore0, zq_astore0N, zq_astore1, zq_astore1N, zq_astore2, zq_astore2N, zq_astore3, zq_astore3N, zq_astore, zq_astoreN, zq_iinc, zq_iadd, zq_isub, zq_imul, zq_iand, zq_ior, zq_ixor, zq_ishl, zq_ishr, zq_iushr, zq_idiv, zq_irem, zq_ladd, zq_lsub, zq_lmul, zq_ldiv, zq_lrem, zq_lcmp, zq_i2l, zq_i2b, zq_i2s, zq_dup_i, zq_dup_r, zq_dup2, zq_null, zq_icmp_eq, zq_if_eq, zq_icmp_ne, zq_if_ne, zq_icmp_lt, zq_if_lt, zq_icmp_ge, zq_if_ge, zq_icmp_gt, zq_if_gt, zq_icmp_le, zq_if_le, zq_goto, zq_ifnull_r, zq_ifnull_n, zq_ifnonnull_r, zq_ifnonnull_n, zq_iaload, zq_baload, zq_laload, zq_aaload, zq_iastore, zq_bastore, zq_lastore, zq_alen, zq_getf, zq_put, zq_tsw, zq_lsw, zq_ireturn, zq_lreturn, zq_areturn, zq_areturnN, zq_return, zq_invokestatic, zq_invokevirtual, zq_new, zq_invokespecial, zq_newarray, zq_anewarray, zq_aastore, zi_m1, zi_0, zi_1, zi_2, zi_3, zi_4, zi_5, zi_6, zi_8, zi_16, zb_m10, zb_m4, zb_m3, zb_m2, zb_6, zb_7, zb_8, zb_9, zb_10, zb_16, zb_20, zb_23, zb_30, zb_32, zb_35, zb_46, zb_48, zb_56, zb_57, zb_59, zb_63, zb_70, zb_98, zb_99, zb_100, zb_111, zb_112, zs_192, zs_255, zs_256, zs_511, zs_512, zs_12345, zf_X7_10_0, zf_X7_19_0, zf_X7_26_0, zf_X7_33_0, zf_X7_39_0, zf_X7_43_0, zf_X7_47_0, zf_X7_50_0, zf_X7_53_0, zf_X7_56_0, zf_X7_59_0, zkc_X7_223, zkl_X7_313, zkl_X7_240, zkl_X7_305, za_C_2, za_C_3, za_C_4, za_C_5, za_C_6, za_C_8, za_C_9, za_C_10, za_C_12, za_C_14, za_C_15, za_C_16, za_C_17, za_C_22, za_C_23, za_C_24, za_C_25, dX7_set_0, dX7_set_1, dX7_set_4, dX7_set_5, dX7_set_6, dX7_set_8, dX7_set_11, dX7_set_14, dX7_set_15, dX7_set_18, dX7_set_19, dX7_set_20, dX7_set_21, dX7_set_24, dX7_set_27, dX7_set_28, dX7_set_29, dX7_set_32, dX7_set_33, dX7_set_34, dX7_set_36, dX7_set_39, dX7_set_42, dX7_set_43, dX7_set_46, dX7_set_47, dX7_set_48, dX7_set_49, dX7_set_52, dX7_set_55, dX7_set_56, dX7_set_57, dX7_set_60, dX7_set_61, dX7_set_62, dX7_set_64, dX7_set_67, dX7_set_70, dX7_set_71, dX7_set_74, dX7_set_75, dX7_set_76, dX7_set_77, dX7_set_80, dX7_set_83, dX7_set_85, dX7_set_86, dX7_set_87, cr_X7_set_67, wr_X7_within]
    have g0 : (0 ≤ v ∧ v ≤ 99) ↔ i_in v 100 := w_in (m := 99) (by decide)
    have g2 : (0 ≤ v ∧ v ≤ 16) ↔ i_in v 17 := w_in (m := 16) (by decide)
    have g1 : (1 ≤ v ∧ v ≤ 9) ↔ (1 ≤ v.toInt ∧ v.toInt ≤ 9) := by rw [i_le, i_le]; simp
    simp only [g0, g1, g2, z_rd, Nat.reduceEqDiff, false_and, and_false, if_false]
    obtain ⟨f5, f6, f7, f8, f9, f10⟩ := CR_nums hC
    have hI := hC.1
    have oA : w = 0 → i_in v 100 → post (some (.int (S.1 0 5))) (z_u S.1 0 5 v, S.2) := by
      intro a b
      obtain ⟨eb, hb⟩ := i_inI b (by omega)
      have g3 : q_set T w v = nI (tpr T) := by unfold q_set; rw [if_pos ⟨a, b⟩]
      have g4 : u_set T w v = (T.1, (cn v, T.2.1.2), T.2.2) := by unfold u_set; rw [if_pos ⟨a, b⟩]
      rw [g3, g4] at hk
      rw [f5]
      refine hk _ (CR_num hC ⟨hI.1, hI.2.1, ⟨by dsimp only [tpr]; omega, hI.2.2.1.2⟩, hI.2.2.2⟩ rfl rfl rfl rfl ?_ (fun x hx => by dsimp only; rw [z_u_o hx]))
      refine ⟨?_, ?_, ?_, ?_, ?_, ?_⟩ <;> simp only [z_rd, true_and, if_true, Nat.reduceEqDiff, if_false] <;> assumption
    have oB : w = 1 → (1 ≤ v.toInt ∧ v.toInt ≤ 9) → post (some (.int (S.1 0 6))) (z_u S.1 0 6 v, S.2) := by
      intro a b
      have w0 : ¬ (w = 0 ∧ i_in v 100) := by rintro ⟨c, -⟩; rw [a] at c; exact absurd c (by decide)
      obtain ⟨eb, hb⟩ := i_inI (v := v) (n := 10) ⟨by omega, by omega⟩ (by omega)
      have hb1 : 1 ≤ cn v := by
        have := b.1
        rw [eb, n_ti (by omega)] at this
        omega
      have g3 : q_set T w v = nI (tbu T) := by unfold q_set; rw [if_neg w0, if_pos ⟨a, b⟩]
      have g4 : u_set T w v = (T.1, (T.2.1.1, cn v, T.2.1.2.2), T.2.2) := by unfold u_set; rw [if_neg w0, if_pos ⟨a, b⟩]
      rw [g3, g4] at hk
      rw [f6]
      refine hk _ (CR_num hC ⟨hI.1, hI.2.1, ⟨hI.2.2.1.1, hb1, by dsimp only [tbu]; omega, hI.2.2.1.2.2.2⟩, hI.2.2.2⟩ rfl rfl rfl rfl ?_ (fun x hx => by dsimp only; rw [z_u_o hx]))
      refine ⟨?_, ?_, ?_, ?_, ?_, ?_⟩ <;> simp only [z_rd, true_and, if_true, Nat.reduceEqDiff, if_false] <;> assumption
    have oC : w = 2 → i_in v 17 → post (some (.int (S.1 0 7))) (z_u S.1 0 7 v, S.2) := by
      intro a b
      have w0 : ¬ (w = 0 ∧ i_in v 100) := by rintro ⟨c, -⟩; rw [a] at c; exact absurd c (by decide)
      have w1 : ¬ (w = 1 ∧ 1 ≤ v.toInt ∧ v.toInt ≤ 9) := by rintro ⟨c, -⟩; rw [a] at c; exact absurd c (by decide)
      obtain ⟨eb, hb⟩ := i_inI b (by omega)
      have g3 : q_set T w v = nI (tdt T) := by unfold q_set; rw [if_neg w0, if_neg w1, if_pos ⟨a, b⟩]
      have g4 : u_set T w v = (T.1, (T.2.1.1, T.2.1.2.1, cn v), T.2.2) := by unfold u_set; rw [if_neg w0, if_neg w1, if_pos ⟨a, b⟩]
      rw [g3, g4] at hk
      rw [f7]
      refine hk _ (CR_num hC ⟨hI.1, hI.2.1, ⟨hI.2.2.1.1, hI.2.2.1.2.1, hI.2.2.1.2.2.1, by dsimp only [tdt]; omega⟩, hI.2.2.2⟩ rfl rfl rfl rfl ?_ (fun x hx => by dsimp only; rw [z_u_o hx]))
      refine ⟨?_, ?_, ?_, ?_, ?_, ?_⟩ <;> simp only [z_rd, true_and, if_true, Nat.reduceEqDiff, if_false] <;> assumption
    have oN : ¬ (w = 0 ∧ i_in v 100) → ¬ (w = 1 ∧ 1 ≤ v.toInt ∧ v.toInt ≤ 9) → ¬ (w = 2 ∧ i_in v 17) → post (some (.int (-2))) S := by
      intro a b c
      have g3 : q_set T w v = -2 := by unfold q_set; rw [if_neg a, if_neg b, if_neg c]
      have g4 : u_set T w v = T := by unfold u_set; rw [if_neg a, if_neg b, if_neg c]
      rw [g3, g4] at hk
      exact hk S hC
    generalize post (some (.int (S.1 0 5))) (z_u S.1 0 5 v, S.2) = PA at *
    generalize post (some (.int (S.1 0 6))) (z_u S.1 0 6 v, S.2) = PB at *
    generalize post (some (.int (S.1 0 7))) (z_u S.1 0 7 v, S.2) = PC at *
    generalize post (some (.int (-2))) S = PN at *
    generalize i_in v 100 = p0 at *
    generalize i_in v 17 = p2 at *
    generalize (1 ≤ v.toInt ∧ v.toInt ≤ 9) = p1 at *
    clear hk hK hC hI f5 f6 f7 f8 f9 f10 g0 g1 g2
    grind
  · exact h.elim
theorem ok_X7_set (T : ZT) {tl : List ZE} : z_Ok (z_shC tl) yX7_set cX7_set 4 (some .int) ({ frames := 1, cells := 0, slots := 0, locals := 22 } : Room) 0 (wp_X7_set T) := z_Ok_of (pu_X7_set T) z_fX7_ok z_kX7_ok co_X7_set ⟨by decide, by decide⟩ (by decide +kernel)
theorem rec_X7_set (T : ZT) {tl : List ZE} : z_rec (z_shC tl) (wp_X7_set T) 6 := by
  intro as S post h
  unfold wp_X7_set at h
  split at h
  · exact ⟨_, _, _, rfl, rfl⟩
  · exact h.elim

