/-! the class's own: copy -/
theorem hasE {n : Nat} {i m : Int32} (hn : n < 1000) : (∃ a b : Nat, a + b ≤ n ∧ i = nI a ∧ m = nI b) ↔ (0 ≤ i.toInt ∧ 0 ≤ m.toInt ∧ i.toInt + m.toInt ≤ n) := by
  constructor
  · rintro ⟨a, b, h, rfl, rfl⟩
    rw [n_ti (by omega), n_ti (by omega)]
    omega
  · rintro ⟨h1, h2, h3⟩
    obtain ⟨a, ha, rfl⟩ := n_of (x := i) (m := n) h1 (by omega)
    obtain ⟨b, hb, rfl⟩ := n_of (x := m) (m := n) h2 (by omega)
    rw [n_ti (by omega), n_ti (by omega)] at h3
    exact ⟨a, b, by omega, rfl, rfl⟩
def wp_X7_copy (T : ZT) : ZW := fun as S k => match as with
  | [.ref 0, .int s, .int i, .int t, .int j, .int n] => CR T S ∧ ∀ S', CR (u_copy T s i t j n) S' → k (some (.int (q_copy T s i t j n))) S'
  | _ => False
theorem wr_X7_copy {T : ZT} {s : Int32} {i : Int32} {t : Int32} {j : Int32} {n : Int32} {S : ZS} {k : Option Value → ZS → Prop} : (wp_X7_copy T) [.ref 0, .int s, .int i, .int t, .int j, .int n] S k = (CR T S ∧ ∀ S', CR (u_copy T s i t j n) S' → k (some (.int (q_copy T s i t j n))) S') := rfl
def cs_X7_copy (T : ZT) : List (Nat × ZC) := [(111, (2, 0, false, wp_X7_sheetOf)), (115, (1, 0, false, wp_X6_isLost)), (119, (2, 0, false, (wp_X7_found T))), (224, (1, 0, false, wp_X6_form)), (227, (3, 0, false, wp_X6_hasItems)), (230, (5, 0, false, wp_X6_fill))]
theorem cr_X7_copy_111 {T : ZT} : (cs_X7_copy T).lookup 111 = some (2, 0, false, wp_X7_sheetOf) := rfl
theorem cr_X7_copy_115 {T : ZT} : (cs_X7_copy T).lookup 115 = some (1, 0, false, wp_X6_isLost) := rfl
theorem cr_X7_copy_119 {T : ZT} : (cs_X7_copy T).lookup 119 = some (2, 0, false, (wp_X7_found T)) := rfl
theorem cr_X7_copy_224 {T : ZT} : (cs_X7_copy T).lookup 224 = some (1, 0, false, wp_X6_form) := rfl
theorem cr_X7_copy_227 {T : ZT} : (cs_X7_copy T).lookup 227 = some (3, 0, false, wp_X6_hasItems) := rfl
theorem cr_X7_copy_230 {T : ZT} : (cs_X7_copy T).lookup 230 = some (5, 0, false, wp_X6_fill) := rfl
set_option maxRecDepth 20000 in
theorem co_X7_copy (T : ZT) {tl : List ZE} : z_csok RX7 ({ frames := 3, cells := 0, slots := 0, locals := 68 } : Room) (z_shC tl) (cs_X7_copy T) := z_cs2 (z_csV ok_X7_sheetOf rec_X7_sheetOf rfl (z_g 356 (by decide +kernel) rfl) (z_g 358 (by decide +kernel) rfl) (z_g 2 (by decide +kernel) rfl) (z_g 359 (by decide +kernel) rfl) (z_g 44 (by decide +kernel) rfl) rfl rfl (by decide +kernel) ⟨by decide, by decide⟩)
  (z_cs2 (z_csV ok_X6_isLost rec_X6_isLost rfl (z_g 360 (by decide +kernel) rfl) (z_g 361 (by decide +kernel) rfl) (z_g 362 (by decide +kernel) rfl) (z_g 363 (by decide +kernel) rfl) (z_g 50 (by decide +kernel) rfl) rfl rfl (by decide +kernel) ⟨by decide, by decide⟩)
  (z_cs2 (z_csV (ok_X7_found T) (rec_X7_found T) rfl (z_g 364 (by decide +kernel) rfl) (z_g 366 (by decide +kernel) rfl) (z_g 3 (by decide +kernel) rfl) (z_g 367 (by decide +kernel) rfl) (z_g 44 (by decide +kernel) rfl) rfl rfl (by decide +kernel) ⟨by decide, by decide⟩)
  (z_cs2 (z_csV ok_X6_form rec_X6_form rfl (z_g 590 (by decide +kernel) rfl) (z_g 591 (by decide +kernel) rfl) (z_g 592 (by decide +kernel) rfl) (z_g 593 (by decide +kernel) rfl) (z_g 50 (by decide +kernel) rfl) rfl rfl (by decide +kernel) ⟨by decide, by decide⟩)
  (z_cs2 (z_csV ok_X6_hasItems rec_X6_hasItems rfl (z_g 612 (by decide +kernel) rfl) (z_g 613 (by decide +kernel) rfl) (z_g 614 (by decide +kernel) rfl) (z_g 615 (by decide +kernel) rfl) (z_g 50 (by decide +kernel) rfl) rfl rfl (by decide +kernel) ⟨by decide, by decide⟩)
  (z_cs2 (z_csV ok_X6_fill rec_X6_fill rfl (z_g 616 (by decide +kernel) rfl) (z_g 617 (by decide +kernel) rfl) (z_g 618 (by decide +kernel) rfl) (z_g 619 (by decide +kernel) rfl) (z_g 50 (by decide +kernel) rfl) rfl rfl (by decide +kernel) ⟨by decide, by decide⟩)
  (z_cs0))))))
set_option maxHeartbeats 4000000 in
set_option maxRecDepth 20000 in
theorem pu_X7_copy (T : ZT) {tl : List ZE} : z_Pure cX7_copy 8 (z_shC tl) z_fX7 (cs_X7_copy T) z_kcX7 z_klX7 (some .int) 0 (wp_X7_copy T) := by
  intro as S post h
  unfold wp_X7_copy at h
  split at h
  · rename_i s i t j n
    refine ⟨Nat.le_of_ble_eq_true rfl, fun K hK => ?_⟩
    change K 0 0 [some (.ref 0), some (.int s), some (.int i), some (.int t), some (.int j), some (.int n), none, none] [] S
    obtain ⟨hC, hk⟩ := h
    refine hK (z_in []) 100 _ _ _ _ _ (Nat.zero_le _) ?_
    simp (config := { maxSteps := 10000000 }) only [z40, z20, z10, z01, zm0, z0m, ze_s, ze_ok, zt_s, zt_t, zt_f, zl_I, zl_J, zl_R, zl_N, zl_C, zl_K, zl_M, zl_ar0, zl_ar1, zl_ar2, zl_ar3, zl_as0, zl_as1, zl_as2, zl_al, zl_gf, zl_gr, zl_pf, zl_iv, zl_ivn, zlk_n, zlk_c, ztb_n, ztb_c, zin_n, zin_1, zin_c, Int.reduceLT, decide_true, decide_false, Bool.true_and, Bool.and_true, List.length_cons, List.length_nil, Int.reduceSub, Int.reduceEq, Int.natCast_zero, zk_s, z_in_n, z_in_c, z_gt_0, z_gt_s, zst_0, zst_1, zst_s, zsl_0, zsl_1, zsl_s, zc_n, zc_i, zc_l, zc_r, zc_u, zca_n, zca_i, zca_l, zca_r, zca_u, zrt_i, zrt_z, zrt_o, z_cal_0, z_cal_s, true_and, and_true, List.nil_append, List.cons_append, Option.toList_some, Option.toList_none, Nat.reduceAdd, Nat.reduceBEq, Nat.reduceLT, Nat.reduceLeDiff, Nat.reduceSub, Int.reduceAdd, Int.reduceLE, Int.reduceToNat, Int.cast_ofNat_Int, Bool.or_true, Bool.true_or, Bool.or_false, Bool.false_or, Nat.le_refl, Nat.zero_le, or_true, true_or, or_false, false_or, not_true_eq_false, not_false_eq_true, not_false_iff, false_implies, true_implies, eq_self, zo_iconst, zo_bipush, zo_sipush, zo_lconst, zo_ldc, zo_ldc_w, zo_ldc2_w, zo_iload_n, zo_iload, zo_lload_n, zo_lload, zo_aload_n, zo_aload, zo_istore_n, zo_istore, zo_lstore_n, zo_lstore, zo_astore_n, zo_astore, zo_iinc, zo_iadd, zo_isub, zo_imul, zo_iand, zo_ior, zo_ixor, zo_ishl, zo_ishr, zo_iushr, zo_idiv, zo_irem, zo_ladd, zo_lsub, zo_lmul, zo_ldiv, zo_lrem, zo_lcmp, zo_i2l, zo_i2b, zo_i2s, zo_dup, zo_dup2, zo_aconst_null, zo_if_icmp, zo_ifCond, zo_goto, zo_ifnull, zo_ifnonnull, zo_iaload, zo_baload, zo_laload, zo_aaload, zo_iastore, zo_bastore, zo_lastore, zo_arraylength, zo_getfield, zo_putfield, zo_tableswitch, zo_lookupswitch, zo_ireturn, zo_lreturn, zo_areturn, zo_return, zo_invokestatic, zo_invokevirtual, zo_new, zo_invokespecial, zo_newarray, zo_anewarray, zo_aastore, zy_0_1, zy_0_2, zy_0_3, zy_1_1, zy_1_2, zy_2_1, zy_2_2, zy_2_3, zy_3_0, zy_4_3, zy_5_1, zy_5_2, zy_6_5, zy_6_6, zy_6_7, zy_6_8, zy_6_9, zy_6_10, zy_7_2, zy_7_6, zy_7_9, zy_7_10, zy_7_11, zy_7_12, zy_7_14, zy_7_21, zy_7_30, zq_iconst, zq_bipush, zq_sipush, zq_lconst0, zq_lconst1, zq_ldc, zq_ldc_w, zq_ldc2_w, zq_iload0, zq_iload1, zq_iload2, zq_iload3, zq_iload, zq_lload0, zq_lload1, zq_lload2, zq_lload3, zq_lload, zq_aload0, zq_aload1, zq_aload2, zq_aload3, zq_aload, zq_istore0, zq_istore1, zq_istore2, zq_istore3, zq_istore, zq_lstore0, zq_lstore1, zq_lstore2, zq_lstore3, zq_lstore, zq_astore0, zq_astore0N, zq_astore1, zq_astore1N, zq_astore2, zq_astore2N, zq_astore3, zq_astore3N, zq_astore, zq_astoreN, zq_iinc, zq_iadd, zq_isub, zq_imul, zq_iand, zq_ior, zq_ixor, zq_ishl, zq_ishr, zq_iushr, zq_idiv, zq_irem, zq_ladd, zq_lsub, zq_lmul, zq_ldiv, zq_lrem, zq_lcmp, zq_i2l, zq_i2b, zq_i2s, zq_dup_i, zq_dup_r, zq_dup2, zq_null, zq_icmp_eq, zq_if_eq, zq_icmp_ne, zq_if_ne, zq_icmp_lt, zq_if_lt, zq_icmp_ge, zq_if_ge, zq_icmp_gt, zq_if_gt, zq_icmp_le, zq_if_le, zq_goto, zq_ifnull_r, zq_ifnull_n, zq_ifnonnull_r, zq_ifnonnull_n, zq_iaload, zq_baload, zq_laload, zq_aaload, zq_iastore, zq_bastore, zq_lastore, zq_alen, zq_getf, zq_put, zq_tsw, zq_lsw, zq_ireturn, zq_lreturn, zq_areturn, zq_areturnN, zq_return, zq_invokestatic, zq_invokevirtual, zq_new, zq_invokespecial, zq_newarray, zq_anewarray, zq_aastore, zi_m1, zi_0, zi_1, zi_2, zi_3, zi_4, zi_5, zi_6, zi_8, zi_16, zb_m10, zb_m4, zb_m3, zb_m2, zb_6, zb_7, zb_8, zb_9, zb_10, zb_16, zb_20, zb_23, zb_30, zb_32, zb_35, zb_46, zb_48, zb_56, zb_57, zb_59, zb_63, zb_70, zb_98, zb_99, zb_100, zb_111, zb_112, zs_192, zs_255, zs_256, zs_511, zs_512, zs_12345, zf_X7_10_0, zf_X7_19_0, zf_X7_26_0, zf_X7_33_0, zf_X7_39_0, zf_X7_43_0, zf_X7_47_0, zf_X7_50_0, zf_X7_53_0, zf_X7_56_0, zf_X7_59_0, zkc_X7_223, zkl_X7_313, zkl_X7_240, zkl_X7_305, za_C_2, za_C_3, za_C_4, za_C_5, za_C_6, za_C_8, za_C_9, za_C_10, za_C_12, za_C_14, za_C_15, za_C_16, za_C_17, za_C_22, za_C_23, za_C_24, za_C_25, dX7_copy_0, dX7_copy_1, dX7_copy_2, dX7_copy_5, dX7_copy_7, dX7_copy_8, dX7_copy_9, dX7_copy_12, dX7_copy_14, dX7_copy_16, dX7_copy_19, dX7_copy_21, dX7_copy_24, dX7_copy_26, dX7_copy_27, dX7_copy_29, dX7_copy_32, dX7_copy_35, dX7_copy_37, dX7_copy_40, dX7_copy_43, dX7_copy_44, dX7_copy_45, dX7_copy_48, dX7_copy_49, dX7_copy_51, dX7_copy_54, dX7_copy_56, dX7_copy_59, dX7_copy_62, dX7_copy_63, dX7_copy_64, dX7_copy_67, dX7_copy_68, dX7_copy_70, dX7_copy_71, dX7_copy_73, dX7_copy_76, dX7_copy_79, dX7_copy_81, dX7_copy_83, dX7_copy_85, dX7_copy_88, dX7_copy_91, dX7_copy_92, dX7_copy_93, dX7_copy_96, dX7_copy_97, dX7_copy_99, dX7_copy_101, dX7_copy_103, dX7_copy_104, dX7_copy_106, dX7_copy_109, dX7_copy_110, cr_X7_copy_111, cr_X7_copy_115, cr_X7_copy_119, cr_X7_copy_224, cr_X7_copy_227, cr_X7_copy_230, wr_X7_sheetOf, wr_X6_isLost, wr_X6_isLost_1, wr_X6_isLost_2, wr_X6_isLost_3, wr_X7_found, wr_X6_form, wr_X6_form_1, wr_X6_form_2, wr_X6_form_3, wr_X6_hasItems, wr_X6_hasItems_1, wr_X6_hasItems_2, wr_X6_hasItems_3, wr_X6_fill, wr_X6_fill_1, wr_X6_fill_2, wr_X6_fill_3, wr_X6_fill_4, wr_X6_fill_5, wr_X6_fill_6, wr_X6_fill_7, wr_X6_fill_8, wr_X6_fill_9, wr_X6_fill_10, wr_X6_fill_11, wr_X6_fill_12, wr_X6_fill_13, wr_X6_fill_14, wr_X6_fill_15]
    have bad : ¬ (i_in s 4 ∧ i_in t 4) → post (some (.int (-2))) S := by
      intro q
      have g1 : q_copy T s i t j n = -2 := by unfold q_copy; rw [if_neg q]
      have g2 : u_copy T s i t j n = T := by unfold u_copy; rw [if_neg q]
      rw [g1, g2] at hk
      exact hk S hC
    have Lo : ∀ a : Nat, a < 4 → s = nI a → ∀ b : Nat, b < 4 → t = nI b → S.1 (18 + a) 2 = -1 ∨ S.1 (18 + b) 2 = -1 → ∃ f, CR T S ∧ 1 = nI f ∧ f ≤ 5 ∧ ∀ (S' : ZS), CR (wFd T f) S' → post (some (Value.int (q_fnd f))) S' := by
      intro a ha ea b hb eb l
      obtain ⟨c1, n1⟩ := s_c ha ea
      obtain ⟨c2, n2⟩ := s_c hb eb
      rw [CR_lost hC ha, CR_lost hC hb] at l
      have f : q_copyF T (cn s) (cn t) i j n = 1 := by unfold q_copyF; rw [n1, n2, if_pos l]
      have g1 : q_copy T s i t j n = q_fnd 1 := by unfold q_copy; rw [if_pos ⟨c1, c2⟩, f, if_neg (by decide)]
      have g2 : u_copy T s i t j n = wFd T 1 := by unfold u_copy; rw [if_pos ⟨c1, c2⟩, f, if_neg (by decide)]
      rw [g1, g2] at hk
      exact ⟨1, hC, rfl, by omega, hk⟩
    have St : ∀ a : Nat, a < 4 → s = nI a → ∀ b : Nat, b < 4 → t = nI b → ¬ S.1 (18 + a) 2 = -1 → ¬ S.1 (18 + b) 2 = -1 → ¬ S.1 (18 + a) 1 = S.1 (18 + b) 1 → ∃ f, CR T S ∧ 4 = nI f ∧ f ≤ 5 ∧ ∀ (S' : ZS), CR (wFd T f) S' → post (some (Value.int (q_fnd f))) S' := by
      intro a ha ea b hb eb l1 l2 d
      obtain ⟨c1, n1⟩ := s_c ha ea
      obtain ⟨c2, n2⟩ := s_c hb eb
      have t1 := CR_there hC ha l1
      have t2 := CR_there hC hb l2
      have z : ¬ ((tsh T a).1 = false ∨ (tsh T b).1 = false) := by rw [t1, t2]; decide
      have z2 : ¬ (tsh T a).2.1 = (tsh T b).2.1 := by
        intro q; apply d
        rw [((CR_sheet hC ha).1 t1).1, ((CR_sheet hC hb).1 t2).1, q]
      have f : q_copyF T (cn s) (cn t) i j n = 4 := by unfold q_copyF; rw [n1, n2, if_neg z, if_pos z2]
      have g1 : q_copy T s i t j n = q_fnd 4 := by unfold q_copy; rw [if_pos ⟨c1, c2⟩, f, if_neg (by decide)]
      have g2 : u_copy T s i t j n = wFd T 4 := by unfold u_copy; rw [if_pos ⟨c1, c2⟩, f, if_neg (by decide)]
      rw [g1, g2] at hk
      exact ⟨4, hC, rfl, by omega, hk⟩
    have Bd : ∀ a : Nat, a < 4 → s = nI a → ∀ b : Nat, b < 4 → t = nI b → ¬ S.1 (18 + a) 2 = -1 → ¬ S.1 (18 + b) 2 = -1 → S.1 (18 + a) 1 = S.1 (18 + b) 1 → ∃ n_1, n_1 ≤ 48 ∧ S.1 (18 + a) 2 = nI n_1 ∧ ((∃ i_1 m, i_1 + m ≤ n_1 ∧ i = nI i_1 ∧ n = nI m) → ∃ n_2, n_2 ≤ 48 ∧ S.1 (18 + b) 2 = nI n_2 ∧ ((∃ i m, i + m ≤ n_2 ∧ j = nI i ∧ n = nI m) → ∃ nt nf a_1 b_1 m, nt ≤ 48 ∧ nf ≤ 48 ∧ S.1 (18 + b) 2 = nI nt ∧ S.1 (18 + a) 2 = nI nf ∧ i = nI a_1 ∧ j = nI b_1 ∧ n = nI m ∧ a_1 + m ≤ nf ∧ b_1 + m ≤ nt ∧ post (some (Value.int 1)) (z_cpy S (22 + a) (22 + b) a_1 b_1 m)) ∧ ((¬∃ i m, i + m ≤ n_2 ∧ j = nI i ∧ n = nI m) → ∃ f, CR T S ∧ 2 = nI f ∧ f ≤ 5 ∧ ∀ (S' : ZS), CR (wFd T f) S' → post (some (Value.int (q_fnd f))) S')) ∧ ((¬∃ i_1 m, i_1 + m ≤ n_1 ∧ i = nI i_1 ∧ n = nI m) → ∃ f, CR T S ∧ 2 = nI f ∧ f ≤ 5 ∧ ∀ (S' : ZS), CR (wFd T f) S' → post (some (Value.int (q_fnd f))) S') := by
      intro a ha ea b hb eb l1 l2 d
      obtain ⟨c1, n1⟩ := s_c ha ea
      obtain ⟨c2, n2⟩ := s_c hb eb
      have t1 := CR_there hC ha l1
      have t2 := CR_there hC hb l2
      have Ia := CR_shI hC ha
      have Ib := CR_shI hC hb
      obtain ⟨b1, b2, b3⟩ := (CR_sheet hC ha).1 t1
      obtain ⟨d1, d2, d3⟩ := (CR_sheet hC hb).1 t2
      have z : ¬ ((tsh T a).1 = false ∨ (tsh T b).1 = false) := by rw [t1, t2]; decide
      have z2 : (tsh T a).2.1 = (tsh T b).2.1 := by
        rw [b1, d1, n_eq (by omega) (by omega)] at d; exact d
      have f : q_copyF T (cn s) (cn t) i j n = if 0 ≤ i.toInt ∧ 0 ≤ j.toInt ∧ 0 ≤ n.toInt ∧ i.toInt + n.toInt ≤ (tsh T a).2.2 ∧ j.toInt + n.toInt ≤ (tsh T b).2.2 then 0 else 2 := by unfold q_copyF; rw [n1, n2, if_neg z, if_neg (fun q => q z2)]
      have g1 : q_copy T s i t j n = if q_copyF T (cn s) (cn t) i j n = 0 then 1 else q_fnd (q_copyF T (cn s) (cn t) i j n) := by unfold q_copy; rw [if_pos ⟨c1, c2⟩]
      have g2 : u_copy T s i t j n = if q_copyF T (cn s) (cn t) i j n = 0 then wSh T b (tsh T b) (va_cpy (tit T a) (tit T b) (cn i) (cn j) (cn n)) else wFd T (q_copyF T (cn s) (cn t) i j n) := by unfold u_copy; rw [if_pos ⟨c1, c2⟩, n1, n2]
      have no : ¬ (0 ≤ i.toInt ∧ 0 ≤ j.toInt ∧ 0 ≤ n.toInt ∧ i.toInt + n.toInt ≤ (tsh T a).2.2 ∧ j.toInt + n.toInt ≤ (tsh T b).2.2) → ∃ f, CR T S ∧ 2 = nI f ∧ f ≤ 5 ∧ ∀ (S' : ZS), CR (wFd T f) S' → post (some (Value.int (q_fnd f))) S' := by
        intro q
        rw [g1, g2, f, if_neg q, if_neg (by decide), if_neg (by decide)] at hk
        exact ⟨2, hC, rfl, by omega, hk⟩
      refine ⟨(tsh T a).2.2, Ia.2, b2, fun h1 => ⟨(tsh T b).2.2, Ib.2, d2, fun h2 => ?_, fun h2 => no (fun q => h2 ((hasE (by omega)).mpr ⟨q.2.1, q.2.2.1, q.2.2.2.2⟩))⟩, fun h1 => no (fun q => h1 ((hasE (by omega)).mpr ⟨q.1, q.2.2.1, q.2.2.2.1⟩))⟩
      obtain ⟨ia, im, k1, rfl, rfl⟩ := h1
      obtain ⟨jb, jm, k2, rfl, k3⟩ := h2
      rw [n_eq (by omega) (by omega)] at k3
      subst k3
      have f0 : q_copyF T (cn s) (cn t) (nI ia) (nI jb) (nI im) = 0 := by rw [f, if_pos (by rw [n_ti (by omega), n_ti (by omega), n_ti (by omega)]; omega)]
      rw [g1, g2, f0, if_pos rfl, if_pos rfl, show cn (nI ia) = ia from n_cl (by omega), show cn (nI jb) = jb from n_cl (by omega), show cn (nI im) = im from n_cl (by omega)] at hk
      refine ⟨(tsh T b).2.2, (tsh T a).2.2, ia, jb, im, Ib.2, Ia.2, d2, b2, rfl, rfl, rfl, k1, k2, hk _ (CR_sh hC hb Ib ?_ (fun x hx => by simp only [z_cpy]; rw [if_neg (by omega)]))⟩
      unfold c_sheet
      simp only [tsh, tit, va_up_self]
      refine ⟨fun _ => ⟨?_, ?_, fun x hx => ?_⟩, fun q => absurd q (by rw [t2]; decide)⟩
      · simp only [z_cpy]; rw [if_neg (by omega)]; exact d1
      · simp only [z_cpy]; rw [if_neg (by omega)]; exact d2
      · simp only [z_cpy, if_true]
        unfold va_cpy
        by_cases h : jb ≤ x ∧ x < jb + im
        · rw [if_pos h, if_pos h]; exact b3 _ (by omega)
        · rw [if_neg h, if_neg h]; exact d3 x hx
    exact ⟨fun es => ⟨fun et => ⟨fun c => Lo 0 (by omega) es 0 (by omega) et (Or.inl c), fun c => ⟨fun c' => Lo 0 (by omega) es 0 (by omega) et (Or.inr c'), fun c' => Bd 0 (by omega) es 0 (by omega) et c c' rfl⟩⟩, fun et => ⟨fun c => Lo 0 (by omega) es 1 (by omega) et (Or.inl c), fun c => ⟨fun c' => Lo 0 (by omega) es 1 (by omega) et (Or.inr c'), fun c' => ⟨fun d => Bd 0 (by omega) es 1 (by omega) et c c' d, fun d => St 0 (by omega) es 1 (by omega) et c c' d⟩⟩⟩, fun et => ⟨fun c => Lo 0 (by omega) es 2 (by omega) et (Or.inl c), fun c => ⟨fun c' => Lo 0 (by omega) es 2 (by omega) et (Or.inr c'), fun c' => ⟨fun d => Bd 0 (by omega) es 2 (by omega) et c c' d, fun d => St 0 (by omega) es 2 (by omega) et c c' d⟩⟩⟩, fun et => ⟨fun c => Lo 0 (by omega) es 3 (by omega) et (Or.inl c), fun c => ⟨fun c' => Lo 0 (by omega) es 3 (by omega) et (Or.inr c'), fun c' => ⟨fun d => Bd 0 (by omega) es 3 (by omega) et c c' d, fun d => St 0 (by omega) es 3 (by omega) et c c' d⟩⟩⟩, fun q => bad (fun z => q z.2)⟩, fun es => ⟨fun et => ⟨fun c => Lo 1 (by omega) es 0 (by omega) et (Or.inl c), fun c => ⟨fun c' => Lo 1 (by omega) es 0 (by omega) et (Or.inr c'), fun c' => ⟨fun d => Bd 1 (by omega) es 0 (by omega) et c c' d, fun d => St 1 (by omega) es 0 (by omega) et c c' d⟩⟩⟩, fun et => ⟨fun c => Lo 1 (by omega) es 1 (by omega) et (Or.inl c), fun c => ⟨fun c' => Lo 1 (by omega) es 1 (by omega) et (Or.inr c'), fun c' => Bd 1 (by omega) es 1 (by omega) et c c' rfl⟩⟩, fun et => ⟨fun c => Lo 1 (by omega) es 2 (by omega) et (Or.inl c), fun c => ⟨fun c' => Lo 1 (by omega) es 2 (by omega) et (Or.inr c'), fun c' => ⟨fun d => Bd 1 (by omega) es 2 (by omega) et c c' d, fun d => St 1 (by omega) es 2 (by omega) et c c' d⟩⟩⟩, fun et => ⟨fun c => Lo 1 (by omega) es 3 (by omega) et (Or.inl c), fun c => ⟨fun c' => Lo 1 (by omega) es 3 (by omega) et (Or.inr c'), fun c' => ⟨fun d => Bd 1 (by omega) es 3 (by omega) et c c' d, fun d => St 1 (by omega) es 3 (by omega) et c c' d⟩⟩⟩, fun q => bad (fun z => q z.2)⟩, fun es => ⟨fun et => ⟨fun c => Lo 2 (by omega) es 0 (by omega) et (Or.inl c), fun c => ⟨fun c' => Lo 2 (by omega) es 0 (by omega) et (Or.inr c'), fun c' => ⟨fun d => Bd 2 (by omega) es 0 (by omega) et c c' d, fun d => St 2 (by omega) es 0 (by omega) et c c' d⟩⟩⟩, fun et => ⟨fun c => Lo 2 (by omega) es 1 (by omega) et (Or.inl c), fun c => ⟨fun c' => Lo 2 (by omega) es 1 (by omega) et (Or.inr c'), fun c' => ⟨fun d => Bd 2 (by omega) es 1 (by omega) et c c' d, fun d => St 2 (by omega) es 1 (by omega) et c c' d⟩⟩⟩, fun et => ⟨fun c => Lo 2 (by omega) es 2 (by omega) et (Or.inl c), fun c => ⟨fun c' => Lo 2 (by omega) es 2 (by omega) et (Or.inr c'), fun c' => Bd 2 (by omega) es 2 (by omega) et c c' rfl⟩⟩, fun et => ⟨fun c => Lo 2 (by omega) es 3 (by omega) et (Or.inl c), fun c => ⟨fun c' => Lo 2 (by omega) es 3 (by omega) et (Or.inr c'), fun c' => ⟨fun d => Bd 2 (by omega) es 3 (by omega) et c c' d, fun d => St 2 (by omega) es 3 (by omega) et c c' d⟩⟩⟩, fun q => bad (fun z => q z.2)⟩, fun es => ⟨fun et => ⟨fun c => Lo 3 (by omega) es 0 (by omega) et (Or.inl c), fun c => ⟨fun c' => Lo 3 (by omega) es 0 (by omega) et (Or.inr c'), fun c' => ⟨fun d => Bd 3 (by omega) es 0 (by omega) et c c' d, fun d => St 3 (by omega) es 0 (by omega) et c c' d⟩⟩⟩, fun et => ⟨fun c => Lo 3 (by omega) es 1 (by omega) et (Or.inl c), fun c => ⟨fun c' => Lo 3 (by omega) es 1 (by omega) et (Or.inr c'), fun c' => ⟨fun d => Bd 3 (by omega) es 1 (by omega) et c c' d, fun d => St 3 (by omega) es 1 (by omega) et c c' d⟩⟩⟩, fun et => ⟨fun c => Lo 3 (by omega) es 2 (by omega) et (Or.inl c), fun c => ⟨fun c' => Lo 3 (by omega) es 2 (by omega) et (Or.inr c'), fun c' => ⟨fun d => Bd 3 (by omega) es 2 (by omega) et c c' d, fun d => St 3 (by omega) es 2 (by omega) et c c' d⟩⟩⟩, fun et => ⟨fun c => Lo 3 (by omega) es 3 (by omega) et (Or.inl c), fun c => ⟨fun c' => Lo 3 (by omega) es 3 (by omega) et (Or.inr c'), fun c' => Bd 3 (by omega) es 3 (by omega) et c c' rfl⟩⟩, fun q => bad (fun z => q z.2)⟩, fun q => by have B := bad (fun z => q z.1); exact ⟨fun _ => B, fun _ => B, fun _ => B, fun _ => B, fun _ => B⟩⟩
  · exact h.elim
theorem ok_X7_copy (T : ZT) {tl : List ZE} : z_Ok (z_shC tl) yX7_copy cX7_copy 8 (some .int) ({ frames := 3, cells := 0, slots := 0, locals := 68 } : Room) 0 (wp_X7_copy T) := z_Ok_of (pu_X7_copy T) z_fX7_ok z_kX7_ok (co_X7_copy T) ⟨by decide, by decide⟩ (by decide +kernel)
theorem rec_X7_copy (T : ZT) {tl : List ZE} : z_rec (z_shC tl) (wp_X7_copy T) 6 := by
  intro as S post h
  unfold wp_X7_copy at h
  split at h
  · exact ⟨_, _, _, rfl, rfl⟩
  · exact h.elim

