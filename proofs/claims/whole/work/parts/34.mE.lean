/-! the model: state changes -/
theorem MR_Wtx0 {T : ZT} {S S' : ZS} {x : ZText} (h : MR T S) (hx : ab_textI 0 x) (h0 : m_tx 0 x S') (h1 : m_tx 1 (tx1 T) S') (hf : ∀ a, ¬ (a = 1 ∨ a = 2) → S'.1 a = S.1 a) : MR (wTx0 T x) S' := by
  obtain ⟨b0, b12, b3, b4, b5, b6, b7, b8, b9⟩ := h
  have h2 : ∀ j, S'.1 0 j = S.1 0 j := fun j => by rw [hf 0 (by omega)]
  exact ⟨⟨hx, b0.2⟩, ⟨h0, h1⟩, m_num_c b3 (h2 9) (h2 10) (h2 11), m_brn_c b4 (h2 12) (h2 14) (hf 8 (by omega)), m_pg_c b5 (hf 14 (by omega)), m_sai_c b6 (h2 21) (hf 15 (by omega)) (hf 16 (by omega)) (hf 17 (by omega)), m_fd_c b7 (h2 30), fun s hs => m_she_c (b8 s hs) (hf 18 (by omega)) (hf 19 (by omega)) (hf 20 (by omega)) (hf 21 (by omega)), m_pop_c b9 (hf 12 (by omega))⟩
theorem MR_Wtx1 {T : ZT} {S S' : ZS} {x : ZText} (h : MR T S) (hx : ab_textI 1 x) (h0 : m_tx 0 (tx0 T) S') (h1 : m_tx 1 x S') (hf : ∀ a, ¬ (a = 1 ∨ a = 2) → S'.1 a = S.1 a) : MR (wTx1 T x) S' := by
  obtain ⟨b0, b12, b3, b4, b5, b6, b7, b8, b9⟩ := h
  have h2 : ∀ j, S'.1 0 j = S.1 0 j := fun j => by rw [hf 0 (by omega)]
  exact ⟨⟨b0.1, hx, b0.2.2⟩, ⟨h0, h1⟩, m_num_c b3 (h2 9) (h2 10) (h2 11), m_brn_c b4 (h2 12) (h2 14) (hf 8 (by omega)), m_pg_c b5 (hf 14 (by omega)), m_sai_c b6 (h2 21) (hf 15 (by omega)) (hf 16 (by omega)) (hf 17 (by omega)), m_fd_c b7 (h2 30), fun s hs => m_she_c (b8 s hs) (hf 18 (by omega)) (hf 19 (by omega)) (hf 20 (by omega)) (hf 21 (by omega)), m_pop_c b9 (hf 12 (by omega))⟩
theorem MR_Wnum {T : ZT} {S S' : ZS} {n : Nat × Nat × Nat} (h : MR T S) (hn : n.1 ≤ 99 ∧ 1 ≤ n.2.1 ∧ n.2.1 ≤ 9 ∧ n.2.2 ≤ 16) (h0 : m_num (T.1, n, T.2.2) S') (hf : ∀ a, ¬ a = 0 → S'.1 a = S.1 a) (h2 : ∀ j, 12 ≤ j → S'.1 0 j = S.1 0 j) : MR (T.1, n, T.2.2) S' := by
  obtain ⟨b0, b12, b3, b4, b5, b6, b7, b8, b9⟩ := h
  exact ⟨⟨b0.1, b0.2.1, hn, b0.2.2.2⟩, ⟨m_tx_c b12.1 (hf 1 (by omega)) (hf 2 (by omega)), m_tx_c b12.2 (hf 1 (by omega)) (hf 2 (by omega))⟩, h0, m_brn_c b4 (h2 12 (by omega)) (h2 14 (by omega)) (hf 8 (by omega)), m_pg_c b5 (hf 14 (by omega)), m_sai_c b6 (h2 21 (by omega)) (hf 15 (by omega)) (hf 16 (by omega)) (hf 17 (by omega)), m_fd_c b7 (h2 30 (by omega)), fun s hs => m_she_c (b8 s hs) (hf 18 (by omega)) (hf 19 (by omega)) (hf 20 (by omega)) (hf 21 (by omega)), m_pop_c b9 (hf 12 (by omega))⟩
theorem MR_Wbr {T : ZT} {S S' : ZS} {b : Nat × (Nat → Nat)} (h : MR T S) (hb : ab_brn b.1 b.2) (h0 : m_brn (wBr T b) S') (hf : ∀ a, ¬ (a = 0 ∨ a = 8) → S'.1 a = S.1 a) (h2 : ∀ j, ¬ (j = 12 ∨ j = 14) → S'.1 0 j = S.1 0 j) : MR (wBr T b) S' := by
  obtain ⟨b0, b12, b3, b4, b5, b6, b7, b8, b9⟩ := h
  exact ⟨⟨b0.1, b0.2.1, b0.2.2.1, hb, b0.2.2.2.2⟩, ⟨m_tx_c b12.1 (hf 1 (by omega)) (hf 2 (by omega)), m_tx_c b12.2 (hf 1 (by omega)) (hf 2 (by omega))⟩, m_num_c b3 (h2 9 (by omega)) (h2 10 (by omega)) (h2 11 (by omega)), h0, m_pg_c b5 (hf 14 (by omega)), m_sai_c b6 (h2 21 (by omega)) (hf 15 (by omega)) (hf 16 (by omega)) (hf 17 (by omega)), m_fd_c b7 (h2 30 (by omega)), fun s hs => m_she_c (b8 s hs) (hf 18 (by omega)) (hf 19 (by omega)) (hf 20 (by omega)) (hf 21 (by omega)), m_pop_c b9 (hf 12 (by omega))⟩
theorem MR_Wpg {T : ZT} {S S' : ZS} {p : Nat × Nat} (h : MR T S) (hp : p.1 + p.2 ≤ 9) (h0 : m_pg (wPg T p) S') (hf : ∀ a, ¬ a = 14 → S'.1 a = S.1 a) : MR (wPg T p) S' := by
  obtain ⟨b0, b12, b3, b4, b5, b6, b7, b8, b9⟩ := h
  have h2 : ∀ j, S'.1 0 j = S.1 0 j := fun j => by rw [hf 0 (by omega)]
  exact ⟨⟨b0.1, b0.2.1, b0.2.2.1, b0.2.2.2.1, hp, b0.2.2.2.2.2⟩, ⟨m_tx_c b12.1 (hf 1 (by omega)) (hf 2 (by omega)), m_tx_c b12.2 (hf 1 (by omega)) (hf 2 (by omega))⟩, m_num_c b3 (h2 9) (h2 10) (h2 11), m_brn_c b4 (h2 12) (h2 14) (hf 8 (by omega)), h0, m_sai_c b6 (h2 21) (hf 15 (by omega)) (hf 16 (by omega)) (hf 17 (by omega)), m_fd_c b7 (h2 30), fun s hs => m_she_c (b8 s hs) (hf 18 (by omega)) (hf 19 (by omega)) (hf 20 (by omega)) (hf 21 (by omega)), m_pop_c b9 (hf 12 (by omega))⟩
theorem MR_Wsd {T : ZT} {S S' : ZS} {p : Nat × (Nat → Nat × Int32 × Nat)} (h : MR T S) (hp : ab_sai p.1 p.2) (h0 : m_sai (wSd T p) S') (hf : ∀ a, ¬ (a = 0 ∨ a = 15 ∨ a = 16 ∨ a = 17) → S'.1 a = S.1 a) (h2 : ∀ j, ¬ j = 21 → S'.1 0 j = S.1 0 j) : MR (wSd T p) S' := by
  obtain ⟨b0, b12, b3, b4, b5, b6, b7, b8, b9⟩ := h
  exact ⟨⟨b0.1, b0.2.1, b0.2.2.1, b0.2.2.2.1, b0.2.2.2.2.1, hp, b0.2.2.2.2.2.2⟩, ⟨m_tx_c b12.1 (hf 1 (by omega)) (hf 2 (by omega)), m_tx_c b12.2 (hf 1 (by omega)) (hf 2 (by omega))⟩, m_num_c b3 (h2 9 (by omega)) (h2 10 (by omega)) (h2 11 (by omega)), m_brn_c b4 (h2 12 (by omega)) (h2 14 (by omega)) (hf 8 (by omega)), m_pg_c b5 (hf 14 (by omega)), h0, m_fd_c b7 (h2 30 (by omega)), fun s hs => m_she_c (b8 s hs) (hf 18 (by omega)) (hf 19 (by omega)) (hf 20 (by omega)) (hf 21 (by omega)), m_pop_c b9 (hf 12 (by omega))⟩
theorem MR_Wfd {T : ZT} {S S' : ZS} {f : Nat} (h : MR T S) (hp : f ≤ 5) (h0 : m_fd (wFd T f) S') (hf : ∀ a, ¬ a = 0 → S'.1 a = S.1 a) (h2 : ∀ j, ¬ j = 30 → S'.1 0 j = S.1 0 j) : MR (wFd T f) S' := by
  obtain ⟨b0, b12, b3, b4, b5, b6, b7, b8, b9⟩ := h
  exact ⟨CR_findT b0 hp, ⟨m_tx_c b12.1 (hf 1 (by omega)) (hf 2 (by omega)), m_tx_c b12.2 (hf 1 (by omega)) (hf 2 (by omega))⟩, m_num_c b3 (h2 9 (by omega)) (h2 10 (by omega)) (h2 11 (by omega)), m_brn_c b4 (h2 12 (by omega)) (h2 14 (by omega)) (hf 8 (by omega)), m_pg_c b5 (hf 14 (by omega)), m_sai_c b6 (h2 21 (by omega)) (hf 15 (by omega)) (hf 16 (by omega)) (hf 17 (by omega)), h0, fun s hs => m_she_c (b8 s hs) (hf 18 (by omega)) (hf 19 (by omega)) (hf 20 (by omega)) (hf 21 (by omega)), m_pop_c b9 (hf 12 (by omega))⟩
theorem MR_Wsh {T : ZT} {S S' : ZS} {s : Nat} {g : Bool × Nat × Nat} {f : Nat → Int32} (h : MR T S) (hs : s < 4) (hg : g.2.1 ≤ 2 ∧ g.2.2 ≤ 48) (h0 : m_she (wSh T s g f) S' s) (ho : ∀ r, r < 4 → ¬ r = s → S'.1 18 r = S.1 18 r ∧ S'.1 19 r = S.1 19 r ∧ S'.1 20 r = S.1 20 r ∧ ∀ i, i < 48 → S'.1 21 (48 * r + i) = S.1 21 (48 * r + i)) (hf : ∀ a, ¬ (18 ≤ a ∧ a ≤ 22) → S'.1 a = S.1 a) : MR (wSh T s g f) S' := by
  obtain ⟨b0, b12, b3, b4, b5, b6, b7, b8, b9⟩ := h
  have h2 : ∀ j, S'.1 0 j = S.1 0 j := fun j => by rw [hf 0 (by omega)]
  refine ⟨⟨b0.1, b0.2.1, b0.2.2.1, b0.2.2.2.1, b0.2.2.2.2.1, b0.2.2.2.2.2.1, fun r hr => ?_, b0.2.2.2.2.2.2.2⟩, ⟨m_tx_c b12.1 (hf 1 (by omega)) (hf 2 (by omega)), m_tx_c b12.2 (hf 1 (by omega)) (hf 2 (by omega))⟩, m_num_c b3 (h2 9) (h2 10) (h2 11), m_brn_c b4 (h2 12) (h2 14) (hf 8 (by omega)), m_pg_c b5 (hf 14 (by omega)), m_sai_c b6 (h2 21) (hf 15 (by omega)) (hf 16 (by omega)) (hf 17 (by omega)), m_fd_c b7 (h2 30), fun r hr => ?_, m_pop_c b9 (hf 12 (by omega))⟩
  · dsimp only [wSh, tsh]
    by_cases e : r = s
    · subst e; rw [va_up_self]; exact hg
    · rw [va_up_ne _ _ e]; exact b0.2.2.2.2.2.2.1 r hr
  · by_cases e : r = s
    · subst e; exact h0
    · have hb := b8 r hr
      have hI := (b0.2.2.2.2.2.2.1 r hr).2
      obtain ⟨q1, q2, q3, q4⟩ := ho r hr e
      unfold m_she at *
      dsimp only [wSh, tsh, tit]
      rw [va_up_ne _ _ e, va_up_ne _ _ e, q1, q2, q3]
      exact ⟨fun t => ⟨(hb.1 t).1, (hb.1 t).2.1, (hb.1 t).2.2.1, fun i hi => by rw [q4 i (Nat.lt_of_lt_of_le hi hI)]; exact (hb.1 t).2.2.2 i hi⟩, hb.2⟩
theorem mt0 : (0 : Int32).toNatClampNeg = 0 := by decide
theorem mt1 : (1 : Int32).toNatClampNeg = 1 := by decide
theorem mt2 : (2 : Int32).toNatClampNeg = 2 := by decide
theorem me02 : ((0 : Int32) = 2) = False := by decide
theorem me12 : ((1 : Int32) = 2) = False := by decide
theorem me21 : ((2 : Int32) = 1) = False := by decide
theorem mi02 : vp_in 0 2 = True := eq_true (by unfold vp_in; decide)
theorem mi12 : vp_in 1 2 = True := eq_true (by unfold vp_in; decide)
def wp_X8_type : ZW := fun as S k => match as with
  | [.ref 0, .int t, .int b] => ∃ T : ZT, MR T S ∧ ∀ S', MR (u_type T t b) S' → k (some (.int (q_type T t b))) S'
  | _ => False
theorem wr_X8_type {t : Int32} {b : Int32} {S : ZS} {k : Option Value → ZS → Prop} : wp_X8_type [.ref 0, .int t, .int b] S k = (∃ T : ZT, MR T S ∧ ∀ S', MR (u_type T t b) S' → k (some (.int (q_type T t b))) S') := rfl
def cs_X8_type : List (Nat × ZC) := [(98, (1, 0, true, wp_X8_isText)), (94, (3, 0, true, wp_X8_in)), (102, (1, 0, true, wp_X8_roomOf))]
theorem cr_X8_type_98 : cs_X8_type.lookup 98 = some (1, 0, true, wp_X8_isText) := rfl
theorem cr_X8_type_94 : cs_X8_type.lookup 94 = some (3, 0, true, wp_X8_in) := rfl
theorem cr_X8_type_102 : cs_X8_type.lookup 102 = some (1, 0, true, wp_X8_roomOf) := rfl
set_option maxRecDepth 20000 in
theorem co_X8_type : z_csok RX8 ({ frames := 2, cells := 0, slots := 0, locals := 42 } : Room) z_shM cs_X8_type := z_cs2 (z_csS ok_X8_isText (z_g 786 (by decide +kernel) rfl) (z_g 787 (by decide +kernel) rfl) (z_g 51 (by decide +kernel) rfl) (z_g 788 (by decide +kernel) rfl) rfl rfl (by decide +kernel) ⟨by decide, by decide⟩)
  (z_cs2 (z_csS ok_X8_in (z_g 789 (by decide +kernel) rfl) (z_g 790 (by decide +kernel) rfl) (z_g 51 (by decide +kernel) rfl) (z_g 791 (by decide +kernel) rfl) rfl rfl (by decide +kernel) ⟨by decide, by decide⟩)
  (z_cs2 (z_csS ok_X8_roomOf (z_g 792 (by decide +kernel) rfl) (z_g 793 (by decide +kernel) rfl) (z_g 51 (by decide +kernel) rfl) (z_g 794 (by decide +kernel) rfl) rfl rfl (by decide +kernel) ⟨by decide, by decide⟩)
  (z_cs0)))
set_option maxHeartbeats 4000000 in
set_option maxRecDepth 20000 in
theorem pu_X8_type : z_Pure cX8_type 3 z_shM z_fX8 cs_X8_type z_kcX8 z_klX8 (some .int) 0 wp_X8_type := by
  intro as S post h
  unfold wp_X8_type at h
  split at h
  · rename_i t b
    refine ⟨Nat.le_of_ble_eq_true rfl, fun K hK => ?_⟩
    change K 0 0 [some (.ref 0), some (.int t), some (.int b)] [] S
    obtain ⟨T, hM, hk⟩ := h
    have hx0 := MR_x0 hM
    have hx1 := MR_x1 hM
    refine hK (z_in []) 60 _ _ _ _ _ (Nat.zero_le _) ?_
    simp (config := { maxSteps := 10000000 }) only [z40, z20, z10, z01, zm0, z0m, ze_s, ze_ok, zt_s, zt_t, zt_f, zl_I, zl_J, zl_R, zl_N, zl_C, zl_K, zl_M, zl_ar0, zl_ar1, zl_ar2, zl_ar3, zl_as0, zl_as1, zl_as2, zl_al, zl_gf, zl_gr, zl_pf, zl_iv, zl_ivn, zlk_n, zlk_c, ztb_n, ztb_c, zin_n, zin_1, zin_c, Int.reduceLT, decide_true, decide_false, Bool.true_and, Bool.and_true, List.length_cons, List.length_nil, Int.reduceSub, Int.reduceEq, Int.natCast_zero, zk_s, z_in_n, z_in_c, z_gt_0, z_gt_s, zst_0, zst_1, zst_s, zsl_0, zsl_1, zsl_s, zc_n, zc_i, zc_l, zc_r, zc_u, zca_n, zca_i, zca_l, zca_r, zca_u, zrt_i, zrt_z, zrt_o, z_cal_0, z_cal_s, true_and, and_true, List.nil_append, List.cons_append, Option.toList_some, Option.toList_none, Nat.reduceAdd, Nat.reduceBEq, Nat.reduceLT, Nat.reduceLeDiff, Nat.reduceSub, Int.reduceAdd, Int.reduceLE, Int.reduceToNat, Int.cast_ofNat_Int, Bool.or_true, Bool.true_or, Bool.or_false, Bool.false_or, Nat.le_refl, Nat.zero_le, or_true, true_or, or_false, false_or, not_true_eq_false, not_false_eq_true, not_false_iff, false_implies, true_implies, eq_self, zo_iconst, zo_bipush, zo_sipush, zo_lconst, zo_ldc, zo_ldc_w, zo_ldc2_w, zo_iload_n, zo_iload, zo_lload_n, zo_lload, zo_aload_n, zo_aload, zo_istore_n, zo_istore, zo_lstore_n, zo_lstore, zo_astore_n, zo_astore, zo_iinc, zo_iadd, zo_isub, zo_imul, zo_iand, zo_ior, zo_ixor, zo_ishl, zo_ishr, zo_iushr, zo_idiv, zo_irem, zo_ladd, zo_lsub, zo_lmul, zo_ldiv, zo_lrem, zo_lcmp, zo_i2l, zo_i2b, zo_i2s, zo_dup, zo_dup2, zo_aconst_null, zo_if_icmp, zo_ifCond, zo_goto, zo_ifnull, zo_ifnonnull, zo_iaload, zo_baload, zo_laload, zo_aaload, zo_iastore, zo_bastore, zo_lastore, zo_arraylength, zo_getfield, zo_putfield, zo_tableswitch, zo_lookupswitch, zo_ireturn, zo_lreturn, zo_areturn, zo_return, zo_invokestatic, zo_invokevirtual, zo_new, zo_invokespecial, zo_newarray, zo_anewarray, zo_aastore, zy_0_1, zy_0_2, zy_0_3, zy_1_1, zy_1_2, zy_2_1, zy_2_2, zy_2_3, zy_3_0, zy_4_3, zy_5_1, zy_5_2, zy_6_5, zy_6_6, zy_6_7, zy_6_8, zy_6_9, zy_6_10, zy_7_2, zy_7_6, zy_7_9, zy_7_10, zy_7_11, zy_7_12, zy_7_14, zy_7_21, zy_7_30, zq_iconst, zq_bipush, zq_sipush, zq_lconst0, zq_lconst1, zq_ldc, zq_ldc_w, zq_ldc2_w, zq_iload0, zq_iload1, zq_iload2, zq_iload3, zq_iload, zq_lload0, zq_lload1, zq_lload2, zq_lload3, zq_lload, zq_aload0, zq_aload1, zq_aload2, zq_aload3, zq_aload, zq_istore0, zq_istore1, zq_istore2, zq_istore3, zq_istore, zq_lstore0, zq_lstore1, zq_lstore2, zq_lstore3, zq_lstore, zq_astore0, zq_astore0N, zq_astore1, zq_astore1N, zq_astore2, zq_astore2N, zq_astore3, zq_astore3N, zq_astore, zq_astoreN, zq_iinc, zq_iadd, zq_isub, zq_imul, zq_iand, zq_ior, zq_ixor, zq_ishl, zq_ishr, zq_iushr, zq_idiv, zq_irem, zq_ladd, zq_lsub, zq_lmul, zq_ldiv, zq_lrem, zq_lcmp, zq_i2l, zq_i2b, zq_i2s, zq_dup_i, zq_dup_r, zq_dup2, zq_null, zq_icmp_eq, zq_if_eq, zq_icmp_ne, zq_if_ne, zq_icmp_lt, zq_if_lt, zq_icmp_ge, zq_if_ge, zq_icmp_gt, zq_if_gt, zq_icmp_le, zq_if_le, zq_goto, zq_ifnull_r, zq_ifnull_n, zq_ifnonnull_r, zq_ifnonnull_n, zq_iaload, zq_baload, zq_laload, zq_aaload, zq_iastore, zq_bastore, zq_lastore, zq_alen, zq_getf, zq_put, zq_tsw, zq_lsw, zq_ireturn, zq_lreturn, zq_areturn, zq_areturnN, zq_return, zq_invokestatic, zq_invokevirtual, zq_new, zq_invokespecial, zq_newarray, zq_anewarray, zq_aastore, zi_m1, zi_0, zi_1, zi_2, zi_3, zi_4, zi_5, zi_6, zi_8, zi_16, zb_m10, zb_m4, zb_m3, zb_m2, zb_6, zb_7, zb_8, zb_9, zb_10, zb_16, zb_20, zb_23, zb_30, zb_32, zb_35, zb_46, zb_48, zb_56, zb_57, zb_59, zb_63, zb_70, zb_98, zb_99, zb_100, zb_111, zb_112, zs_192, zs_255, zs_256, zs_511, zs_512, zs_12345, zf_X8_7_0, zf_X8_13_0, zf_X8_112_0, zf_X8_16_0, zf_X8_19_0, zf_X8_22_0, zf_X8_115_0, zf_X8_25_0, zf_X8_28_0, zf_X8_78_0, zf_X8_82_0, zf_X8_85_0, zf_X8_144_0, zf_X8_31_0, zf_X8_137_0, zf_X8_34_0, zf_X8_38_0, zf_X8_41_0, zf_X8_44_0, zf_X8_47_0, zf_X8_50_0, zf_X8_234_0, zf_X8_53_0, zf_X8_56_0, zf_X8_59_0, zf_X8_62_0, zf_X8_66_0, zf_X8_69_0, zf_X8_72_0, zf_X8_75_0, zf_X8_244_0, zkc_X8_240, zkc_X8_253, zkl_X8_92, zkl_X8_262, zkl_X8_257, za_M_1, za_M_2, za_M_3, za_M_4, za_M_5, za_M_6, za_M_7, za_M_8, za_M_9, za_M_10, za_M_11, za_M_12, za_M_13, za_M_14, za_M_15, za_M_16, za_M_17, za_M_18, za_M_19, za_M_20, za_M_21, za_M_22, dX8_type_0, dX8_type_1, dX8_type_4, dX8_type_7, dX8_type_8, dX8_type_9, dX8_type_12, dX8_type_15, dX8_type_18, dX8_type_20, dX8_type_21, dX8_type_22, dX8_type_25, dX8_type_26, dX8_type_27, dX8_type_28, dX8_type_31, dX8_type_34, dX8_type_36, dX8_type_37, dX8_type_38, dX8_type_41, dX8_type_43, dX8_type_44, dX8_type_45, dX8_type_46, dX8_type_49, dX8_type_50, dX8_type_51, dX8_type_52, dX8_type_53, dX8_type_54, dX8_type_55, dX8_type_58, dX8_type_59, dX8_type_60, dX8_type_61, dX8_type_62, dX8_type_63, dX8_type_64, dX8_type_65, dX8_type_68, dX8_type_69, dX8_type_70, cr_X8_type_98, cr_X8_type_94, cr_X8_type_102, wr_X8_isText, wr_X8_in, wr_X8_roomOf]
    rw [w_in (m := 255) (by decide)]
    refine ⟨fun c => ?_, fun c => ?_⟩
    · rcases i_in2 c with rfl | rfl
      · have eT : S.1 1 0 = nI (tx0 T).1 := hM.2.1.1.1
        have e35 : (35 : Int32) * 0 + nI (tx0 T).1 = nI (35 * 0 + (tx0 T).1) := by rw [show (0 : Int32) = nI 0 from rfl, show (35 : Int32) = nI 35 from rfl, pk_mul, nI_add]
        simp only [Int32.reduceLE, Int32.reduceLT, Int32.reduceAdd, Int32.reduceSub, and_self, and_true, true_and, false_and, and_false, true_implies, false_implies, not_true_eq_false, not_false_eq_true, z10, z01, z20, me02, me12, me21, mt0, mt1, mt2, mi02, mi12, z_rd, Nat.reduceEqDiff, if_true, if_false]
        simp only [eT, e35, n_eqL (n := (tx0 T).1) (M := 35) 35 rfl (by omega) (by omega), n_cl (show 35 * 0 + (tx0 T).1 < 2147483648 by omega), nI_1]
        refine ⟨fun d => ⟨fun e => ?_, fun e => ⟨n_in (by omega) (by omega), ?_⟩⟩, fun d => ?_⟩
        · have g1 : q_type T 0 b = -4 := by unfold q_type; rw [if_pos ⟨by simp, d⟩, if_pos rfl, if_pos e]
          have g2 : u_type T 0 b = T := by unfold u_type; rw [if_pos ⟨by simp, d⟩, if_pos rfl, if_pos e]
          rw [g1, g2] at hk
          exact hk S hM
        · obtain ⟨eb, hb⟩ := i_inI d (by omega)
          have g1 : q_type T 0 b = nI ((tx0 T).1 + 1) := by unfold q_type; rw [if_pos ⟨by simp, d⟩, if_pos rfl, if_neg e]
          have g2 : u_type T 0 b = wTx0 T ((tx0 T).1 + 1, va_up (tx0 T).2 (tx0 T).1 (cn b)) := by unfold u_type; rw [if_pos ⟨by simp, d⟩, if_pos rfl, if_neg e]
          rw [g1, g2] at hk
          have own : m_tx 0 ((tx0 T).1 + 1, va_up (tx0 T).2 (tx0 T).1 (cn b)) (z_u (z_u S.1 2 (35 * 0 + (tx0 T).1) b) 1 0 (nI ((tx0 T).1 + 1)), S.2) := by
            refine ⟨by simp only [z_rd, Nat.reduceEqDiff, true_and, and_true, and_self, false_and, and_false, if_true, if_false], fun i hi => ?_⟩
            dsimp only at hi ⊢
            simp only [z_rd, Nat.reduceEqDiff, true_and, and_true, and_self, false_and, and_false, if_true, if_false]
            by_cases ei : i = (tx0 T).1
            · subst ei; rw [if_pos rfl, va_up_self]; exact eb
            · rw [if_neg (by omega), va_up_ne _ _ ei]; exact hM.2.1.1.2 i (by omega)
          have oth : m_tx (1 - 0) (if 0 = 0 then tx1 T else tx0 T) (z_u (z_u S.1 2 (35 * 0 + (tx0 T).1) b) 1 0 (nI ((tx0 T).1 + 1)), S.2) := by
            simp only [Nat.reduceSub, if_true, Nat.reduceEqDiff, if_false]
            refine ⟨?_, fun i hi => ?_⟩
            · simp only [z_rd, Nat.reduceEqDiff, true_and, and_true, and_self, false_and, and_false, if_true, if_false]
              first | exact hM.2.1.1.1 | exact hM.2.1.2.1
            · simp only [z_rd, Nat.reduceEqDiff, true_and, and_true, and_self, false_and, and_false, if_true, if_false]
              rw [if_neg (by omega)]
              first | exact hM.2.1.1.2 i hi | exact hM.2.1.2.2 i hi
          have hfr : ∀ a, ¬ (a = 1 ∨ a = 2) → z_u (z_u S.1 2 (35 * 0 + (tx0 T).1) b) 1 0 (nI ((tx0 T).1 + 1)) a = S.1 a := fun a ha => by rw [z_u_o (by omega), z_u_o (by omega)]
          refine hk _ (MR_Wtx0 hM (ab_upd hM.1.1 (by omega) (by simp; omega)) ?_ ?_ hfr)
          · first | exact own | exact oth
          · first | exact own | exact oth
        · have g1 : q_type T 0 b = -2 := by unfold q_type; rw [if_neg (fun q => d q.2)]
          have g2 : u_type T 0 b = T := by unfold u_type; rw [if_neg (fun q => d q.2)]
          rw [g1, g2] at hk
          exact hk S hM
      · have eT : S.1 1 1 = nI (tx1 T).1 := hM.2.1.2.1
        have e35 : (35 : Int32) * 1 + nI (tx1 T).1 = nI (35 * 1 + (tx1 T).1) := by rw [show (1 : Int32) = nI 1 from rfl, show (35 : Int32) = nI 35 from rfl, pk_mul, nI_add]
        simp only [Int32.reduceLE, Int32.reduceLT, Int32.reduceAdd, Int32.reduceSub, and_self, and_true, true_and, false_and, and_false, true_implies, false_implies, not_true_eq_false, not_false_eq_true, z10, z01, z20, me02, me12, me21, mt0, mt1, mt2, mi02, mi12, z_rd, Nat.reduceEqDiff, if_true, if_false]
        simp only [eT, e35, n_eqL (n := (tx1 T).1) (M := 23) 23 rfl (by omega) (by omega), n_cl (show 35 * 1 + (tx1 T).1 < 2147483648 by omega), nI_1]
        refine ⟨fun d => ⟨fun e => ?_, fun e => ⟨n_in (by omega) (by omega), ?_⟩⟩, fun d => ?_⟩
        · have g1 : q_type T 1 b = -4 := by unfold q_type; rw [if_pos ⟨by simp, d⟩, if_neg (show ¬ (1 : Int32) = 0 by decide), if_pos e]
          have g2 : u_type T 1 b = T := by unfold u_type; rw [if_pos ⟨by simp, d⟩, if_neg (show ¬ (1 : Int32) = 0 by decide), if_pos e]
          rw [g1, g2] at hk
          exact hk S hM
        · obtain ⟨eb, hb⟩ := i_inI d (by omega)
          have g1 : q_type T 1 b = nI ((tx1 T).1 + 1) := by unfold q_type; rw [if_pos ⟨by simp, d⟩, if_neg (show ¬ (1 : Int32) = 0 by decide), if_neg e]
          have g2 : u_type T 1 b = wTx1 T ((tx1 T).1 + 1, va_up (tx1 T).2 (tx1 T).1 (cn b)) := by unfold u_type; rw [if_pos ⟨by simp, d⟩, if_neg (show ¬ (1 : Int32) = 0 by decide), if_neg e]
          rw [g1, g2] at hk
          have own : m_tx 1 ((tx1 T).1 + 1, va_up (tx1 T).2 (tx1 T).1 (cn b)) (z_u (z_u S.1 2 (35 * 1 + (tx1 T).1) b) 1 1 (nI ((tx1 T).1 + 1)), S.2) := by
            refine ⟨by simp only [z_rd, Nat.reduceEqDiff, true_and, and_true, and_self, false_and, and_false, if_true, if_false], fun i hi => ?_⟩
            dsimp only at hi ⊢
            simp only [z_rd, Nat.reduceEqDiff, true_and, and_true, and_self, false_and, and_false, if_true, if_false]
            by_cases ei : i = (tx1 T).1
            · subst ei; rw [if_pos rfl, va_up_self]; exact eb
            · rw [if_neg (by omega), va_up_ne _ _ ei]; exact hM.2.1.2.2 i (by omega)
          have oth : m_tx (1 - 1) (if 1 = 0 then tx1 T else tx0 T) (z_u (z_u S.1 2 (35 * 1 + (tx1 T).1) b) 1 1 (nI ((tx1 T).1 + 1)), S.2) := by
            simp only [Nat.reduceSub, if_true, Nat.reduceEqDiff, if_false]
            refine ⟨?_, fun i hi => ?_⟩
            · simp only [z_rd, Nat.reduceEqDiff, true_and, and_true, and_self, false_and, and_false, if_true, if_false]
              first | exact hM.2.1.1.1 | exact hM.2.1.2.1
            · simp only [z_rd, Nat.reduceEqDiff, true_and, and_true, and_self, false_and, and_false, if_true, if_false]
              rw [if_neg (by omega)]
              first | exact hM.2.1.1.2 i hi | exact hM.2.1.2.2 i hi
          have hfr : ∀ a, ¬ (a = 1 ∨ a = 2) → z_u (z_u S.1 2 (35 * 1 + (tx1 T).1) b) 1 1 (nI ((tx1 T).1 + 1)) a = S.1 a := fun a ha => by rw [z_u_o (by omega), z_u_o (by omega)]
          refine hk _ (MR_Wtx1 hM (ab_upd hM.1.2.1 (by omega) (by simp; omega)) ?_ ?_ hfr)
          · first | exact own | exact oth
          · first | exact own | exact oth
        · have g1 : q_type T 1 b = -2 := by unfold q_type; rw [if_neg (fun q => d q.2)]
          have g2 : u_type T 1 b = T := by unfold u_type; rw [if_neg (fun q => d q.2)]
          rw [g1, g2] at hk
          exact hk S hM
    · have c0 : ¬ t = 0 := fun q => c (by rw [q]; decide)
      have c1 : ¬ t = 1 := fun q => c (by rw [q]; decide)
      have g1 : q_type T t b = -2 := by simp [q_type, c0, c1]
      have g2 : u_type T t b = T := by simp [u_type, c0, c1]
      rw [g1, g2] at hk
      exact hk S hM
  · exact h.elim
theorem ok_X8_type : z_Ok z_shM yX8_type cX8_type 3 (some .int) ({ frames := 2, cells := 0, slots := 0, locals := 42 } : Room) 0 wp_X8_type := z_Ok_of pu_X8_type z_fX8_ok z_kX8_ok co_X8_type ⟨by decide, by decide⟩ (by decide +kernel)
theorem rec_X8_type : z_rec z_shM wp_X8_type 7 := by
  intro as S post h
  unfold wp_X8_type at h
  split at h
  · exact ⟨_, _, _, rfl, rfl⟩
  · exact h.elim
def wp_X8_wipe : ZW := fun as S k => match as with
  | [.ref 0, .int t] => ∃ T : ZT, MR T S ∧ ∀ S', MR (u_wipe T t) S' → k (some (.int (q_wipe T t))) S'
  | _ => False
theorem wr_X8_wipe {t : Int32} {S : ZS} {k : Option Value → ZS → Prop} : wp_X8_wipe [.ref 0, .int t] S k = (∃ T : ZT, MR T S ∧ ∀ S', MR (u_wipe T t) S' → k (some (.int (q_wipe T t))) S') := rfl
def cs_X8_wipe : List (Nat × ZC) := [(98, (1, 0, true, wp_X8_isText))]
theorem cr_X8_wipe_98 : cs_X8_wipe.lookup 98 = some (1, 0, true, wp_X8_isText) := rfl
set_option maxRecDepth 20000 in
theorem co_X8_wipe : z_csok RX8 ({ frames := 2, cells := 0, slots := 0, locals := 42 } : Room) z_shM cs_X8_wipe := z_cs2 (z_csS ok_X8_isText (z_g 786 (by decide +kernel) rfl) (z_g 787 (by decide +kernel) rfl) (z_g 51 (by decide +kernel) rfl) (z_g 788 (by decide +kernel) rfl) rfl rfl (by decide +kernel) ⟨by decide, by decide⟩)
  (z_cs0)
set_option maxHeartbeats 4000000 in
set_option maxRecDepth 20000 in
theorem pu_X8_wipe : z_Pure cX8_wipe 3 z_shM z_fX8 cs_X8_wipe z_kcX8 z_klX8 (some .int) 0 wp_X8_wipe := by
  intro as S post h
  unfold wp_X8_wipe at h
  split at h
  · rename_i t
    refine ⟨Nat.le_of_ble_eq_true rfl, fun K hK => ?_⟩
    change K 0 0 [some (.ref 0), some (.int t), none] [] S
    obtain ⟨T, hM, hk⟩ := h
    refine hK (z_in []) 60 _ _ _ _ _ (Nat.zero_le _) ?_
    simp (config := { maxSteps := 10000000 }) only [z40, z20, z10, z01, zm0, z0m, ze_s, ze_ok, zt_s, zt_t, zt_f, zl_I, zl_J, zl_R, zl_N, zl_C, zl_K, zl_M, zl_ar0, zl_ar1, zl_ar2, zl_ar3, zl_as0, zl_as1, zl_as2, zl_al, zl_gf, zl_gr, zl_pf, zl_iv, zl_ivn, zlk_n, zlk_c, ztb_n, ztb_c, zin_n, zin_1, zin_c, Int.reduceLT, decide_true, decide_false, Bool.true_and, Bool.and_true, List.length_cons, List.length_nil, Int.reduceSub, Int.reduceEq, Int.natCast_zero, zk_s, z_in_n, z_in_c, z_gt_0, z_gt_s, zst_0, zst_1, zst_s, zsl_0, zsl_1, zsl_s, zc_n, zc_i, zc_l, zc_r, zc_u, zca_n, zca_i, zca_l, zca_r, zca_u, zrt_i, zrt_z, zrt_o, z_cal_0, z_cal_s, true_and, and_true, List.nil_append, List.cons_append, Option.toList_some, Option.toList_none, Nat.reduceAdd, Nat.reduceBEq, Nat.reduceLT, Nat.reduceLeDiff, Nat.reduceSub, Int.reduceAdd, Int.reduceLE, Int.reduceToNat, Int.cast_ofNat_Int, Bool.or_true, Bool.true_or, Bool.or_false, Bool.false_or, Nat.le_refl, Nat.zero_le, or_true, true_or, or_false, false_or, not_true_eq_false, not_false_eq_true, not_false_iff, false_implies, true_implies, eq_self, zo_iconst, zo_bipush, zo_sipush, zo_lconst, zo_ldc, zo_ldc_w, zo_ldc2_w, zo_iload_n, zo_iload, zo_lload_n, zo_lload, zo_aload_n, zo_aload, zo_istore_n, zo_istore, zo_lstore_n, zo_lstore, zo_astore_n, zo_astore, zo_iinc, zo_iadd, zo_isub, zo_imul, zo_iand, zo_ior, zo_ixor, zo_ishl, zo_ishr, zo_iushr, zo_idiv, zo_irem, zo_ladd, zo_lsub, zo_lmul, zo_ldiv, zo_lrem, zo_lcmp, zo_i2l, zo_i2b, zo_i2s, zo_dup, zo_dup2, zo_aconst_null, zo_if_icmp, zo_ifCond, zo_goto, zo_ifnull, zo_ifnonnull, zo_iaload, zo_baload, zo_laload, zo_aaload, zo_iastore, zo_bastore, zo_lastore, zo_arraylength, zo_getfield, zo_putfield, zo_tableswitch, zo_lookupswitch, zo_ireturn, zo_lreturn, zo_areturn, zo_return, zo_invokestatic, zo_invokevirtual, zo_new, zo_invokespecial, zo_newarray, zo_anewarray, zo_aastore, zy_0_1, zy_0_2, zy_0_3, zy_1_1, zy_1_2, zy_2_1, zy_2_2, zy_2_3, zy_3_0, zy_4_3, zy_5_1, zy_5_2, zy_6_5, zy_6_6, zy_6_7, zy_6_8, zy_6_9, zy_6_10, zy_7_2, zy_7_6, zy_7_9, zy_7_10, zy_7_11, zy_7_12, zy_7_14, zy_7_21, zy_7_30, zq_iconst, zq_bipush, zq_sipush, zq_lconst0, zq_lconst1, zq_ldc, zq_ldc_w, zq_ldc2_w, zq_iload0, zq_iload1, zq_iload2, zq_iload3, zq_iload, zq_lload0, zq_lload1, zq_lload2, zq_lload3, zq_lload, zq_aload0, zq_aload1, zq_aload2, zq_aload3, zq_aload, zq_istore0, zq_istore1, zq_istore2, zq_istore3, zq_istore, zq_lstore0, zq_lstore1, zq_lstore2, zq_lstore3, zq_lstore, zq_astore0, zq_astore0N, zq_astore1, zq_astore1N, zq_astore2, zq_astore2N, zq_astore3, zq_astore3N, zq_astore, zq_astoreN, zq_iinc, zq_iadd, zq_isub, zq_imul, zq_iand, zq_ior, zq_ixor, zq_ishl, zq_ishr, zq_iushr, zq_idiv, zq_irem, zq_ladd, zq_lsub, zq_lmul, zq_ldiv, zq_lrem, zq_lcmp, zq_i2l, zq_i2b, zq_i2s, zq_dup_i, zq_dup_r, zq_dup2, zq_null, zq_icmp_eq, zq_if_eq, zq_icmp_ne, zq_if_ne, zq_icmp_lt, zq_if_lt, zq_icmp_ge, zq_if_ge, zq_icmp_gt, zq_if_gt, zq_icmp_le, zq_if_le, zq_goto, zq_ifnull_r, zq_ifnull_n, zq_ifnonnull_r, zq_ifnonnull_n, zq_iaload, zq_baload, zq_laload, zq_aaload, zq_iastore, zq_bastore, zq_lastore, zq_alen, zq_getf, zq_put, zq_tsw, zq_lsw, zq_ireturn, zq_lreturn, zq_areturn, zq_areturnN, zq_return, zq_invokestatic, zq_invokevirtual, zq_new, zq_invokespecial, zq_newarray, zq_anewarray, zq_aastore, zi_m1, zi_0, zi_1, zi_2, zi_3, zi_4, zi_5, zi_6, zi_8, zi_16, zb_m10, zb_m4, zb_m3, zb_m2, zb_6, zb_7, zb_8, zb_9, zb_10, zb_16, zb_20, zb_23, zb_30, zb_32, zb_35, zb_46, zb_48, zb_56, zb_57, zb_59, zb_63, zb_70, zb_98, zb_99, zb_100, zb_111, zb_112, zs_192, zs_255, zs_256, zs_511, zs_512, zs_12345, zf_X8_7_0, zf_X8_13_0, zf_X8_112_0, zf_X8_16_0, zf_X8_19_0, zf_X8_22_0, zf_X8_115_0, zf_X8_25_0, zf_X8_28_0, zf_X8_78_0, zf_X8_82_0, zf_X8_85_0, zf_X8_144_0, zf_X8_31_0, zf_X8_137_0, zf_X8_34_0, zf_X8_38_0, zf_X8_41_0, zf_X8_44_0, zf_X8_47_0, zf_X8_50_0, zf_X8_234_0, zf_X8_53_0, zf_X8_56_0, zf_X8_59_0, zf_X8_62_0, zf_X8_66_0, zf_X8_69_0, zf_X8_72_0, zf_X8_75_0, zf_X8_244_0, zkc_X8_240, zkc_X8_253, zkl_X8_92, zkl_X8_262, zkl_X8_257, za_M_1, za_M_2, za_M_3, za_M_4, za_M_5, za_M_6, za_M_7, za_M_8, za_M_9, za_M_10, za_M_11, za_M_12, za_M_13, za_M_14, za_M_15, za_M_16, za_M_17, za_M_18, za_M_19, za_M_20, za_M_21, za_M_22, dX8_wipe_0, dX8_wipe_1, dX8_wipe_4, dX8_wipe_7, dX8_wipe_9, dX8_wipe_10, dX8_wipe_11, dX8_wipe_14, dX8_wipe_15, dX8_wipe_16, dX8_wipe_17, dX8_wipe_18, dX8_wipe_21, dX8_wipe_22, dX8_wipe_23, dX8_wipe_24, dX8_wipe_25, cr_X8_wipe_98, wr_X8_isText]
    refine ⟨fun c => ?_, fun c => ?_⟩
    · rcases i_in2 c with rfl | rfl
      · have eT : S.1 1 0 = nI (tx0 T).1 := hM.2.1.1.1
        simp only [Int32.reduceLE, Int32.reduceLT, Int32.reduceAdd, Int32.reduceSub, and_self, and_true, true_and, false_and, and_false, true_implies, false_implies, not_true_eq_false, not_false_eq_true, z10, z01, z20, me02, me12, me21, mt0, mt1, mt2, mi02, mi12, z_rd, Nat.reduceEqDiff, if_true, if_false]
        rw [eT]
        have own : m_tx 0 (0, (tx0 T).2) (z_u S.1 1 0 0, S.2) := ⟨by simp only [z_rd, Nat.reduceEqDiff, true_and, and_true, and_self, false_and, and_false, if_true, if_false]; rfl, fun i hi => absurd hi (Nat.not_lt_zero _)⟩
        have oth : m_tx (1 - 0) (if 0 = 0 then tx1 T else tx0 T) (z_u S.1 1 0 0, S.2) := by
          simp only [Nat.reduceSub, if_true, Nat.reduceEqDiff, if_false]
          refine ⟨?_, fun i hi => ?_⟩
          · simp only [z_rd, Nat.reduceEqDiff, true_and, and_true, and_self, false_and, and_false, if_true, if_false]
            first | exact hM.2.1.1.1 | exact hM.2.1.2.1
          · simp only [z_rd, Nat.reduceEqDiff, true_and, and_true, and_self, false_and, and_false, if_true, if_false]
            first | exact hM.2.1.1.2 i hi | exact hM.2.1.2.2 i hi
        refine hk _ (MR_Wtx0 hM ⟨Nat.zero_le _, fun i hi => absurd hi (Nat.not_lt_zero _)⟩ ?_ ?_ (fun a ha => by dsimp only; rw [z_u_o (by omega)]))
        · first | exact own | exact oth
        · first | exact own | exact oth
      · have eT : S.1 1 1 = nI (tx1 T).1 := hM.2.1.2.1
        simp only [Int32.reduceLE, Int32.reduceLT, Int32.reduceAdd, Int32.reduceSub, and_self, and_true, true_and, false_and, and_false, true_implies, false_implies, not_true_eq_false, not_false_eq_true, z10, z01, z20, me02, me12, me21, mt0, mt1, mt2, mi02, mi12, z_rd, Nat.reduceEqDiff, if_true, if_false]
        rw [eT]
        have own : m_tx 1 (0, (tx1 T).2) (z_u S.1 1 1 0, S.2) := ⟨by simp only [z_rd, Nat.reduceEqDiff, true_and, and_true, and_self, false_and, and_false, if_true, if_false]; rfl, fun i hi => absurd hi (Nat.not_lt_zero _)⟩
        have oth : m_tx (1 - 1) (if 1 = 0 then tx1 T else tx0 T) (z_u S.1 1 1 0, S.2) := by
          simp only [Nat.reduceSub, if_true, Nat.reduceEqDiff, if_false]
          refine ⟨?_, fun i hi => ?_⟩
          · simp only [z_rd, Nat.reduceEqDiff, true_and, and_true, and_self, false_and, and_false, if_true, if_false]
            first | exact hM.2.1.1.1 | exact hM.2.1.2.1
          · simp only [z_rd, Nat.reduceEqDiff, true_and, and_true, and_self, false_and, and_false, if_true, if_false]
            first | exact hM.2.1.1.2 i hi | exact hM.2.1.2.2 i hi
        refine hk _ (MR_Wtx1 hM ⟨Nat.zero_le _, fun i hi => absurd hi (Nat.not_lt_zero _)⟩ ?_ ?_ (fun a ha => by dsimp only; rw [z_u_o (by omega)]))
        · first | exact own | exact oth
        · first | exact own | exact oth
    · have c0 : ¬ t = 0 := fun q => c (by rw [q]; decide)
      have c1 : ¬ t = 1 := fun q => c (by rw [q]; decide)
      have g1 : q_wipe T t = -2 := by simp [q_wipe, c0, c1]
      have g2 : u_wipe T t = T := by simp [u_wipe, c0, c1]
      rw [g1, g2] at hk
      exact hk S hM
  · exact h.elim
theorem ok_X8_wipe : z_Ok z_shM yX8_wipe cX8_wipe 3 (some .int) ({ frames := 2, cells := 0, slots := 0, locals := 42 } : Room) 0 wp_X8_wipe := z_Ok_of pu_X8_wipe z_fX8_ok z_kX8_ok co_X8_wipe ⟨by decide, by decide⟩ (by decide +kernel)
theorem rec_X8_wipe : z_rec z_shM wp_X8_wipe 7 := by
  intro as S post h
  unfold wp_X8_wipe at h
  split at h
  · exact ⟨_, _, _, rfl, rfl⟩
  · exact h.elim
def wp_X8_undo : ZW := fun as S k => match as with
  | [.ref 0, .int t] => ∃ T : ZT, MR T S ∧ ∀ S', MR (u_undo T t) S' → k (some (.int (q_undo T t))) S'
  | _ => False
theorem wr_X8_undo {t : Int32} {S : ZS} {k : Option Value → ZS → Prop} : wp_X8_undo [.ref 0, .int t] S k = (∃ T : ZT, MR T S ∧ ∀ S', MR (u_undo T t) S' → k (some (.int (q_undo T t))) S') := rfl
def cs_X8_undo : List (Nat × ZC) := [(98, (1, 0, true, wp_X8_isText))]
theorem cr_X8_undo_98 : cs_X8_undo.lookup 98 = some (1, 0, true, wp_X8_isText) := rfl
set_option maxRecDepth 20000 in
theorem co_X8_undo : z_csok RX8 ({ frames := 2, cells := 0, slots := 0, locals := 42 } : Room) z_shM cs_X8_undo := z_cs2 (z_csS ok_X8_isText (z_g 786 (by decide +kernel) rfl) (z_g 787 (by decide +kernel) rfl) (z_g 51 (by decide +kernel) rfl) (z_g 788 (by decide +kernel) rfl) rfl rfl (by decide +kernel) ⟨by decide, by decide⟩)
  (z_cs0)
set_option maxHeartbeats 4000000 in
set_option maxRecDepth 20000 in
theorem pu_X8_undo : z_Pure cX8_undo 2 z_shM z_fX8 cs_X8_undo z_kcX8 z_klX8 (some .int) 0 wp_X8_undo := by
  intro as S post h
  unfold wp_X8_undo at h
  split at h
  · rename_i t
    refine ⟨Nat.le_of_ble_eq_true rfl, fun K hK => ?_⟩
    change K 0 0 [some (.ref 0), some (.int t)] [] S
    obtain ⟨T, hM, hk⟩ := h
    have hx0 := MR_x0 hM
    have hx1 := MR_x1 hM
    refine hK (z_in []) 60 _ _ _ _ _ (Nat.zero_le _) ?_
    simp (config := { maxSteps := 10000000 }) only [z40, z20, z10, z01, zm0, z0m, ze_s, ze_ok, zt_s, zt_t, zt_f, zl_I, zl_J, zl_R, zl_N, zl_C, zl_K, zl_M, zl_ar0, zl_ar1, zl_ar2, zl_ar3, zl_as0, zl_as1, zl_as2, zl_al, zl_gf, zl_gr, zl_pf, zl_iv, zl_ivn, zlk_n, zlk_c, ztb_n, ztb_c, zin_n, zin_1, zin_c, Int.reduceLT, decide_true, decide_false, Bool.true_and, Bool.and_true, List.length_cons, List.length_nil, Int.reduceSub, Int.reduceEq, Int.natCast_zero, zk_s, z_in_n, z_in_c, z_gt_0, z_gt_s, zst_0, zst_1, zst_s, zsl_0, zsl_1, zsl_s, zc_n, zc_i, zc_l, zc_r, zc_u, zca_n, zca_i, zca_l, zca_r, zca_u, zrt_i, zrt_z, zrt_o, z_cal_0, z_cal_s, true_and, and_true, List.nil_append, List.cons_append, Option.toList_some, Option.toList_none, Nat.reduceAdd, Nat.reduceBEq, Nat.reduceLT, Nat.reduceLeDiff, Nat.reduceSub, Int.reduceAdd, Int.reduceLE, Int.reduceToNat, Int.cast_ofNat_Int, Bool.or_true, Bool.true_or, Bool.or_false, Bool.false_or, Nat.le_refl, Nat.zero_le, or_true, true_or, or_false, false_or, not_true_eq_false, not_false_eq_true, not_false_iff, false_implies, true_implies, eq_self, zo_iconst, zo_bipush, zo_sipush, zo_lconst, zo_ldc, zo_ldc_w, zo_ldc2_w, zo_iload_n, zo_iload, zo_lload_n, zo_lload, zo_aload_n, zo_aload, zo_istore_n, zo_istore, zo_lstore_n, zo_lstore, zo_astore_n, zo_astore, zo_iinc, zo_iadd, zo_isub, zo_imul, zo_iand, zo_ior, zo_ixor, zo_ishl, zo_ishr, zo_iushr, zo_idiv, zo_irem, zo_ladd, zo_lsub, zo_lmul, zo_ldiv, zo_lrem, zo_lcmp, zo_i2l, zo_i2b, zo_i2s, zo_dup, zo_dup2, zo_aconst_null, zo_if_icmp, zo_ifCond, zo_goto, zo_ifnull, zo_ifnonnull, zo_iaload, zo_baload, zo_laload, zo_aaload, zo_iastore, zo_bastore, zo_lastore, zo_arraylength, zo_getfield, zo_putfield, zo_tableswitch, zo_lookupswitch, zo_ireturn, zo_lreturn, zo_areturn, zo_return, zo_invokestatic, zo_invokevirtual, zo_new, zo_invokespecial, zo_newarray, zo_anewarray, zo_aastore, zy_0_1, zy_0_2, zy_0_3, zy_1_1, zy_1_2, zy_2_1, zy_2_2, zy_2_3, zy_3_0, zy_4_3, zy_5_1, zy_5_2, zy_6_5, zy_6_6, zy_6_7, zy_6_8, zy_6_9, zy_6_10, zy_7_2, zy_7_6, zy_7_9, zy_7_10, zy_7_11, zy_7_12, zy_7_14, zy_7_21, zy_7_30, zq_iconst, zq_bipush, zq_sipush, zq_lconst0, zq_lconst1, zq_ldc, zq_ldc_w, zq_ldc2_w, zq_iload0, zq_iload1, zq_iload2, zq_iload3, zq_iload, zq_lload0, zq_lload1, zq_lload2, zq_lload3, zq_lload, zq_aload0, zq_aload1, zq_aload2, zq_aload3, zq_aload, zq_istore0, zq_istore1, zq_istore2, zq_istore3, zq_istore, zq_lstore0, zq_lstore1, zq_lstore2, zq_lstore3, zq_lstore, zq_astore0, zq_astore0N, zq_astore1, zq_astore1N, zq_astore2, zq_astore2N, zq_astore3, zq_astore3N, zq_astore, zq_astoreN, zq_iinc, zq_iadd, zq_isub, zq_imul, zq_iand, zq_ior, zq_ixor, zq_ishl, zq_ishr, zq_iushr, zq_idiv, zq_irem, zq_ladd, zq_lsub, zq_lmul, zq_ldiv, zq_lrem, zq_lcmp, zq_i2l, zq_i2b, zq_i2s, zq_dup_i, zq_dup_r, zq_dup2, zq_null, zq_icmp_eq, zq_if_eq, zq_icmp_ne, zq_if_ne, zq_icmp_lt, zq_if_lt, zq_icmp_ge, zq_if_ge, zq_icmp_gt, zq_if_gt, zq_icmp_le, zq_if_le, zq_goto, zq_ifnull_r, zq_ifnull_n, zq_ifnonnull_r, zq_ifnonnull_n, zq_iaload, zq_baload, zq_laload, zq_aaload, zq_iastore, zq_bastore, zq_lastore, zq_alen, zq_getf, zq_put, zq_tsw, zq_lsw, zq_ireturn, zq_lreturn, zq_areturn, zq_areturnN, zq_return, zq_invokestatic, zq_invokevirtual, zq_new, zq_invokespecial, zq_newarray, zq_anewarray, zq_aastore, zi_m1, zi_0, zi_1, zi_2, zi_3, zi_4, zi_5, zi_6, zi_8, zi_16, zb_m10, zb_m4, zb_m3, zb_m2, zb_6, zb_7, zb_8, zb_9, zb_10, zb_16, zb_20, zb_23, zb_30, zb_32, zb_35, zb_46, zb_48, zb_56, zb_57, zb_59, zb_63, zb_70, zb_98, zb_99, zb_100, zb_111, zb_112, zs_192, zs_255, zs_256, zs_511, zs_512, zs_12345, zf_X8_7_0, zf_X8_13_0, zf_X8_112_0, zf_X8_16_0, zf_X8_19_0, zf_X8_22_0, zf_X8_115_0, zf_X8_25_0, zf_X8_28_0, zf_X8_78_0, zf_X8_82_0, zf_X8_85_0, zf_X8_144_0, zf_X8_31_0, zf_X8_137_0, zf_X8_34_0, zf_X8_38_0, zf_X8_41_0, zf_X8_44_0, zf_X8_47_0, zf_X8_50_0, zf_X8_234_0, zf_X8_53_0, zf_X8_56_0, zf_X8_59_0, zf_X8_62_0, zf_X8_66_0, zf_X8_69_0, zf_X8_72_0, zf_X8_75_0, zf_X8_244_0, zkc_X8_240, zkc_X8_253, zkl_X8_92, zkl_X8_262, zkl_X8_257, za_M_1, za_M_2, za_M_3, za_M_4, za_M_5, za_M_6, za_M_7, za_M_8, za_M_9, za_M_10, za_M_11, za_M_12, za_M_13, za_M_14, za_M_15, za_M_16, za_M_17, za_M_18, za_M_19, za_M_20, za_M_21, za_M_22, dX8_undo_0, dX8_undo_1, dX8_undo_4, dX8_undo_7, dX8_undo_9, dX8_undo_10, dX8_undo_11, dX8_undo_14, dX8_undo_15, dX8_undo_16, dX8_undo_19, dX8_undo_21, dX8_undo_22, dX8_undo_23, dX8_undo_26, dX8_undo_27, dX8_undo_28, dX8_undo_29, dX8_undo_30, dX8_undo_31, dX8_undo_32, dX8_undo_33, dX8_undo_36, dX8_undo_37, dX8_undo_38, cr_X8_undo_98, wr_X8_isText]
    refine ⟨fun c => ?_, fun c => ?_⟩
    · rcases i_in2 c with rfl | rfl
      · have eT : S.1 1 0 = nI (tx0 T).1 := hM.2.1.1.1
        simp only [Int32.reduceLE, Int32.reduceLT, Int32.reduceAdd, Int32.reduceSub, and_self, and_true, true_and, false_and, and_false, true_implies, false_implies, not_true_eq_false, not_false_eq_true, z10, z01, z20, me02, me12, me21, mt0, mt1, mt2, mi02, mi12, z_rd, Nat.reduceEqDiff, if_true, if_false]
        simp only [eT, n_eqL (n := (tx0 T).1) (M := 0) 0 rfl (by omega) (by omega)]
        refine ⟨fun e => ?_, fun e => ?_⟩
        · have g1 : q_undo T 0 = -3 := by simp [q_undo, e]
          have g2 : u_undo T 0 = wTx0 T ((tx0 T).1 - 1, (tx0 T).2) := by simp [u_undo]
          rw [g1, g2, e] at hk
          refine hk S ?_
          rw [show wTx0 T (0 - 1, (tx0 T).2) = T from by rw [Nat.zero_sub]; unfold wTx0; rw [← e]]
          exact hM
        · have g1 : q_undo T 0 = nI ((tx0 T).1 - 1) := by simp [q_undo, e]
          have g2 : u_undo T 0 = wTx0 T ((tx0 T).1 - 1, (tx0 T).2) := by simp [u_undo]
          rw [g1, g2] at hk
          rw [show nI (tx0 T).1 - 1 = nI ((tx0 T).1 - 1) from pk_sub (b := 1) (by omega)]
          have own : m_tx 0 ((tx0 T).1 - 1, (tx0 T).2) (z_u S.1 1 0 (nI ((tx0 T).1 - 1)), S.2) := by
            refine ⟨by simp only [z_rd, Nat.reduceEqDiff, true_and, and_true, and_self, false_and, and_false, if_true, if_false], fun i hi => ?_⟩
            dsimp only at hi ⊢
            simp only [z_rd, Nat.reduceEqDiff, true_and, and_true, and_self, false_and, and_false, if_true, if_false]
            exact hM.2.1.1.2 i (by omega)
          have oth : m_tx (1 - 0) (if 0 = 0 then tx1 T else tx0 T) (z_u S.1 1 0 (nI ((tx0 T).1 - 1)), S.2) := by
            simp only [Nat.reduceSub, if_true, Nat.reduceEqDiff, if_false]
            refine ⟨?_, fun i hi => ?_⟩
            · simp only [z_rd, Nat.reduceEqDiff, true_and, and_true, and_self, false_and, and_false, if_true, if_false]
              first | exact hM.2.1.1.1 | exact hM.2.1.2.1
            · simp only [z_rd, Nat.reduceEqDiff, true_and, and_true, and_self, false_and, and_false, if_true, if_false]
              first | exact hM.2.1.1.2 i hi | exact hM.2.1.2.2 i hi
          refine hk _ (MR_Wtx0 hM ⟨Nat.le_trans (Nat.sub_le _ _) hM.1.1.1, fun i hi => hM.1.1.2 i (by dsimp only at hi; omega)⟩ ?_ ?_ (fun a ha => by dsimp only; rw [z_u_o (by omega)]))
          · first | exact own | exact oth
          · first | exact own | exact oth
      · have eT : S.1 1 1 = nI (tx1 T).1 := hM.2.1.2.1
        simp only [Int32.reduceLE, Int32.reduceLT, Int32.reduceAdd, Int32.reduceSub, and_self, and_true, true_and, false_and, and_false, true_implies, false_implies, not_true_eq_false, not_false_eq_true, z10, z01, z20, me02, me12, me21, mt0, mt1, mt2, mi02, mi12, z_rd, Nat.reduceEqDiff, if_true, if_false]
        simp only [eT, n_eqL (n := (tx1 T).1) (M := 0) 0 rfl (by omega) (by omega)]
        refine ⟨fun e => ?_, fun e => ?_⟩
        · have g1 : q_undo T 1 = -3 := by simp [q_undo, e]
          have g2 : u_undo T 1 = wTx1 T ((tx1 T).1 - 1, (tx1 T).2) := by simp [u_undo]
          rw [g1, g2, e] at hk
          refine hk S ?_
          rw [show wTx1 T (0 - 1, (tx1 T).2) = T from by rw [Nat.zero_sub]; unfold wTx1; rw [← e]]
          exact hM
        · have g1 : q_undo T 1 = nI ((tx1 T).1 - 1) := by simp [q_undo, e]
          have g2 : u_undo T 1 = wTx1 T ((tx1 T).1 - 1, (tx1 T).2) := by simp [u_undo]
          rw [g1, g2] at hk
          rw [show nI (tx1 T).1 - 1 = nI ((tx1 T).1 - 1) from pk_sub (b := 1) (by omega)]
          have own : m_tx 1 ((tx1 T).1 - 1, (tx1 T).2) (z_u S.1 1 1 (nI ((tx1 T).1 - 1)), S.2) := by
            refine ⟨by simp only [z_rd, Nat.reduceEqDiff, true_and, and_true, and_self, false_and, and_false, if_true, if_false], fun i hi => ?_⟩
            dsimp only at hi ⊢
            simp only [z_rd, Nat.reduceEqDiff, true_and, and_true, and_self, false_and, and_false, if_true, if_false]
            exact hM.2.1.2.2 i (by omega)
          have oth : m_tx (1 - 1) (if 1 = 0 then tx1 T else tx0 T) (z_u S.1 1 1 (nI ((tx1 T).1 - 1)), S.2) := by
            simp only [Nat.reduceSub, if_true, Nat.reduceEqDiff, if_false]
            refine ⟨?_, fun i hi => ?_⟩
            · simp only [z_rd, Nat.reduceEqDiff, true_and, and_true, and_self, false_and, and_false, if_true, if_false]
              first | exact hM.2.1.1.1 | exact hM.2.1.2.1
            · simp only [z_rd, Nat.reduceEqDiff, true_and, and_true, and_self, false_and, and_false, if_true, if_false]
              first | exact hM.2.1.1.2 i hi | exact hM.2.1.2.2 i hi
          refine hk _ (MR_Wtx1 hM ⟨Nat.le_trans (Nat.sub_le _ _) hM.1.2.1.1, fun i hi => hM.1.2.1.2 i (by dsimp only at hi; omega)⟩ ?_ ?_ (fun a ha => by dsimp only; rw [z_u_o (by omega)]))
          · first | exact own | exact oth
          · first | exact own | exact oth
    · have c0 : ¬ t = 0 := fun q => c (by rw [q]; decide)
      have c1 : ¬ t = 1 := fun q => c (by rw [q]; decide)
      have g1 : q_undo T t = -2 := by simp [q_undo, c0, c1]
      have g2 : u_undo T t = T := by simp [u_undo, c0, c1]
      rw [g1, g2] at hk
      exact hk S hM
  · exact h.elim
theorem ok_X8_undo : z_Ok z_shM yX8_undo cX8_undo 2 (some .int) ({ frames := 2, cells := 0, slots := 0, locals := 42 } : Room) 0 wp_X8_undo := z_Ok_of pu_X8_undo z_fX8_ok z_kX8_ok co_X8_undo ⟨by decide, by decide⟩ (by decide +kernel)
theorem rec_X8_undo : z_rec z_shM wp_X8_undo 7 := by
  intro as S post h
  unfold wp_X8_undo at h
  split at h
  · exact ⟨_, _, _, rfl, rfl⟩
  · exact h.elim
def wp_X8_set : ZW := fun as S k => match as with
  | [.ref 0, .int w, .int v] => ∃ T : ZT, MR T S ∧ ∀ S', MR (u_set T w v) S' → k (some (.int (q_set T w v))) S'
  | _ => False
theorem wr_X8_set {w : Int32} {v : Int32} {S : ZS} {k : Option Value → ZS → Prop} : wp_X8_set [.ref 0, .int w, .int v] S k = (∃ T : ZT, MR T S ∧ ∀ S', MR (u_set T w v) S' → k (some (.int (q_set T w v))) S') := rfl
def cs_X8_set : List (Nat × ZC) := [(94, (3, 0, true, wp_X8_in))]
theorem cr_X8_set_94 : cs_X8_set.lookup 94 = some (3, 0, true, wp_X8_in) := rfl
set_option maxRecDepth 20000 in
theorem co_X8_set : z_csok RX8 ({ frames := 1, cells := 0, slots := 0, locals := 22 } : Room) z_shM cs_X8_set := z_cs2 (z_csS ok_X8_in (z_g 789 (by decide +kernel) rfl) (z_g 790 (by decide +kernel) rfl) (z_g 51 (by decide +kernel) rfl) (z_g 791 (by decide +kernel) rfl) rfl rfl (by decide +kernel) ⟨by decide, by decide⟩)
  (z_cs0)
set_option maxHeartbeats 4000000 in
set_option maxRecDepth 20000 in
theorem pu_X8_set : z_Pure cX8_set 6 z_shM z_fX8 cs_X8_set z_kcX8 z_klX8 (some .int) 0 wp_X8_set := by
  intro as S post h
  unfold wp_X8_set at h
  split at h
  · rename_i w v
    refine ⟨Nat.le_of_ble_eq_true rfl, fun K hK => ?_⟩
    change K 0 0 [some (.ref 0), some (.int w), some (.int v), none, none, none] [] S
    obtain ⟨T, hM, hk⟩ := h
    have g9 : (1 ≤ v ∧ v ≤ 9) ↔ (1 ≤ v.toInt ∧ v.toInt ≤ 9) := by rw [i_le, i_le]; simp
    obtain ⟨n1, n2, n3⟩ := id hM.2.2.1
    have hI := hM.1.2.2.1
    by_cases w0 : w = 0
    · subst w0
      refine hK (z_in []) 90 _ _ _ _ _ (Nat.zero_le _) ?_
      simp (config := { maxSteps := 10000000 }) only [z40, z20, z10, z01, zm0, z0m, ze_s, ze_ok, zt_s, zt_t, zt_f, zl_I, zl_J, zl_R, zl_N, zl_C, zl_K, zl_M, zl_ar0, zl_ar1, zl_ar2, zl_ar3, zl_as0, zl_as1, zl_as2, zl_al, zl_gf, zl_gr, zl_pf, zl_iv, zl_ivn, zlk_n, zlk_c, ztb_n, ztb_c, zin_n, zin_1, zin_c, Int.reduceLT, decide_true, decide_false, Bool.true_and, Bool.and_true, List.length_cons, List.length_nil, Int.reduceSub, Int.reduceEq, Int.natCast_zero, zk_s, z_in_n, z_in_c, z_gt_0, z_gt_s, zst_0, zst_1, zst_s, zsl_0, zsl_1, zsl_s, zc_n, zc_i, zc_l, zc_r, zc_u, zca_n, zca_i, zca_l, zca_r, zca_u, zrt_i, zrt_z, zrt_o, z_cal_0, z_cal_s, true_and, and_true, List.nil_append, List.cons_append, Option.toList_some, Option.toList_none, Nat.reduceAdd, Nat.reduceBEq, Nat.reduceLT, Nat.reduceLeDiff, Nat.reduceSub, Int.reduceAdd, Int.reduceLE, Int.reduceToNat, Int.cast_ofNat_Int, Bool.or_true, Bool.true_or, Bool.or_false, Bool.false_or, Nat.le_refl, Nat.zero_le, or_true, true_or, or_false, false_or, not_true_eq_false, not_false_eq_true, not_false_iff, false_implies, true_implies, eq_self, zo_iconst, zo_bipush, zo_sipush, zo_lconst, zo_ldc, zo_ldc_w, zo_ldc2_w, zo_iload_n, zo_iload, zo_lload_n, zo_lload, zo_aload_n, zo_aload, zo_istore_n, zo_istore, zo_lstore_n, zo_lstore, zo_astore_n, zo_astore, zo_iinc, zo_iadd, zo_isub, zo_imul, zo_iand, zo_ior, zo_ixor, zo_ishl, zo_ishr, zo_iushr, zo_idiv, zo_irem, zo_ladd, zo_lsub, zo_lmul, zo_ldiv, zo_lrem, zo_lcmp, zo_i2l, zo_i2b, zo_i2s, zo_dup, zo_dup2, zo_aconst_null, zo_if_icmp, zo_ifCond, zo_goto, zo_ifnull, zo_ifnonnull, zo_iaload, zo_baload, zo_laload, zo_aaload, zo_iastore, zo_bastore, zo_lastore, zo_arraylength, zo_getfield, zo_putfield, zo_tableswitch, zo_lookupswitch, zo_ireturn, zo_lreturn, zo_areturn, zo_return, zo_invokestatic, zo_invokevirtual, zo_new, zo_invokespecial, zo_newarray, zo_anewarray, zo_aastore, zy_0_1, zy_0_2, zy_0_3, zy_1_1, zy_1_2, zy_2_1, zy_2_2, zy_2_3, zy_3_0, zy_4_3, zy_5_1, zy_5_2, zy_6_5, zy_6_6, zy_6_7, zy_6_8, zy_6_9, zy_6_10, zy_7_2, zy_7_6, zy_7_9, zy_7_10, zy_7_11, zy_7_12, zy_7_14, zy_7_21, zy_7_30, zq_iconst, zq_bipush, zq_sipush, zq_lconst0, zq_lconst1, zq_ldc, zq_ldc_w, zq_ldc2_w, zq_iload0, zq_iload1, zq_iload2, zq_iload3, zq_iload, zq_lload0, zq_lload1, zq_lload2, zq_lload3, zq_lload, zq_aload0, zq_aload1, zq_aload2, zq_aload3, zq_aload, zq_istore0, zq_istore1, zq_istore2, zq_istore3, zq_istore, zq_lstore0, zq_lstore1, zq_lstore2, zq_lstore3, zq_lstore, zq_astore0, zq_astore0N, zq_astore1, zq_astore1N, zq_astore2, zq_astore2N, zq_astore3, zq_astore3N, zq_astore, zq_astoreN, zq_iinc, zq_iadd, zq_isub, zq_imul, zq_iand, zq_ior, zq_ixor, zq_ishl, zq_ishr, zq_iushr, zq_idiv, zq_irem, zq_ladd, zq_lsub, zq_lmul, zq_ldiv, zq_lrem, zq_lcmp, zq_i2l, zq_i2b, zq_i2s, zq_dup_i, zq_dup_r, zq_dup2, zq_null, zq_icmp_eq, zq_if_eq, zq_icmp_ne, zq_if_ne, zq_icmp_lt, zq_if_lt, zq_icmp_ge, zq_if_ge, zq_icmp_gt, zq_if_gt, zq_icmp_le, zq_if_le, zq_goto, zq_ifnull_r, zq_ifnull_n, zq_ifnonnull_r, zq_ifnonnull_n, zq_iaload, zq_baload, zq_laload, zq_aaload, zq_iastore, zq_bastore, zq_lastore, zq_alen, zq_getf, zq_put, zq_tsw, zq_lsw, zq_ireturn, zq_lreturn, zq_areturn, zq_areturnN, zq_return, zq_invokestatic, zq_invokevirtual, zq_new, zq_invokespecial, zq_newarray, zq_anewarray, zq_aastore, zi_m1, zi_0, zi_1, zi_2, zi_3, zi_4, zi_5, zi_6, zi_8, zi_16, zb_m10, zb_m4, zb_m3, zb_m2, zb_6, zb_7, zb_8, zb_9, zb_10, zb_16, zb_20, zb_23, zb_30, zb_32, zb_35, zb_46, zb_48, zb_56, zb_57, zb_59, zb_63, zb_70, zb_98, zb_99, zb_100, zb_111, zb_112, zs_192, zs_255, zs_256, zs_511, zs_512, zs_12345, zf_X8_7_0, zf_X8_13_0, zf_X8_112_0, zf_X8_16_0, zf_X8_19_0, zf_X8_22_0, zf_X8_115_0, zf_X8_25_0, zf_X8_28_0, zf_X8_78_0, zf_X8_82_0, zf_X8_85_0, zf_X8_144_0, zf_X8_31_0, zf_X8_137_0, zf_X8_34_0, zf_X8_38_0, zf_X8_41_0, zf_X8_44_0, zf_X8_47_0, zf_X8_50_0, zf_X8_234_0, zf_X8_53_0, zf_X8_56_0, zf_X8_59_0, zf_X8_62_0, zf_X8_66_0, zf_X8_69_0, zf_X8_72_0, zf_X8_75_0, zf_X8_244_0, zkc_X8_240, zkc_X8_253, zkl_X8_92, zkl_X8_262, zkl_X8_257, za_M_1, za_M_2, za_M_3, za_M_4, za_M_5, za_M_6, za_M_7, za_M_8, za_M_9, za_M_10, za_M_11, za_M_12, za_M_13, za_M_14, za_M_15, za_M_16, za_M_17, za_M_18, za_M_19, za_M_20, za_M_21, za_M_22, dX8_set_0, dX8_set_1, dX8_set_2, dX8_set_5, dX8_set_6, dX8_set_9, dX8_set_10, dX8_set_11, dX8_set_12, dX8_set_15, dX8_set_17, dX8_set_20, dX8_set_21, dX8_set_22, dX8_set_25, dX8_set_27, dX8_set_30, dX8_set_32, dX8_set_34, dX8_set_35, dX8_set_36, dX8_set_37, dX8_set_40, dX8_set_43, dX8_set_44, dX8_set_45, dX8_set_47, dX8_set_50, dX8_set_53, dX8_set_55, dX8_set_56, dX8_set_57, dX8_set_60, dX8_set_61, dX8_set_64, dX8_set_67, dX8_set_68, dX8_set_69, dX8_set_72, dX8_set_73, dX8_set_76, dX8_set_79, dX8_set_80, dX8_set_83, dX8_set_85, dX8_set_86, dX8_set_87, dX8_set_90, dX8_set_91, dX8_set_94, dX8_set_95, dX8_set_98, dX8_set_101, dX8_set_102, dX8_set_103, dX8_set_104, dX8_set_107, dX8_set_108, dX8_set_111, dX8_set_112, dX8_set_115, dX8_set_118, dX8_set_119, dX8_set_120, dX8_set_121, dX8_set_124, dX8_set_125, dX8_set_128, dX8_set_129, dX8_set_132, dX8_set_135, dX8_set_137, cr_X8_set_94, wr_X8_in]
      simp only [Int32.reduceLE, Int32.reduceLT, Int32.reduceAdd, Int32.reduceSub, and_self, and_true, true_and, false_and, and_false, true_implies, false_implies, not_true_eq_false, not_false_eq_true, z10, z01, z20, me02, me12, me21, mt0, mt1, mt2, mi02, mi12, z_rd, Nat.reduceEqDiff, if_true, if_false]
      rw [w_in (m := 99) (by decide)]
      refine ⟨fun d => ?_, fun d => ?_⟩
      · obtain ⟨ev, hv⟩ := i_inI d (by omega)
        have g1 : q_set T 0 v = nI (tpr T) := by unfold q_set; rw [if_pos ⟨rfl, d⟩]
        have g2 : u_set T 0 v = (T.1, (cn v, T.2.1.2), T.2.2) := by unfold u_set; rw [if_pos ⟨rfl, d⟩]
        rw [g1, g2] at hk
        rw [n1]
        refine hk _ (MR_Wnum hM ⟨by dsimp only; omega, hI.2⟩ ⟨?_, ?_, ?_⟩ (fun a ha => by dsimp only; rw [z_u_o ha, z_u_o ha, z_u_o ha]) (fun j hj => by dsimp only; rw [z_u_nj (by omega), z_u_nj (by omega), z_u_nj (by omega)]))
        · simp only [z_rd, Nat.reduceEqDiff, true_and, and_true, and_self, false_and, and_false, if_true, if_false]
          exact ev
        · simp only [z_rd, Nat.reduceEqDiff, true_and, and_true, and_self, false_and, and_false, if_true, if_false]
          exact n2
        · simp only [z_rd, Nat.reduceEqDiff, true_and, and_true, and_self, false_and, and_false, if_true, if_false]
          exact n3
      · have g1 : q_set T 0 v = -2 := by unfold q_set; rw [if_neg (fun q => d q.2), if_neg (fun q => absurd q.1 (by decide)), if_neg (fun q => absurd q.1 (by decide))]
        have g2 : u_set T 0 v = T := by unfold u_set; rw [if_neg (fun q => d q.2), if_neg (fun q => absurd q.1 (by decide)), if_neg (fun q => absurd q.1 (by decide))]
        rw [g1, g2] at hk
        exact hk S hM
    · by_cases w1 : w = 1
      · subst w1
        refine hK (z_in []) 90 _ _ _ _ _ (Nat.zero_le _) ?_
        simp (config := { maxSteps := 10000000 }) only [z40, z20, z10, z01, zm0, z0m, ze_s, ze_ok, zt_s, zt_t, zt_f, zl_I, zl_J, zl_R, zl_N, zl_C, zl_K, zl_M, zl_ar0, zl_ar1, zl_ar2, zl_ar3, zl_as0, zl_as1, zl_as2, zl_al, zl_gf, zl_gr, zl_pf, zl_iv, zl_ivn, zlk_n, zlk_c, ztb_n, ztb_c, zin_n, zin_1, zin_c, Int.reduceLT, decide_true, decide_false, Bool.true_and, Bool.and_true, List.length_cons, List.length_nil, Int.reduceSub, Int.reduceEq, Int.natCast_zero, zk_s, z_in_n, z_in_c, z_gt_0, z_gt_s, zst_0, zst_1, zst_s, zsl_0, zsl_1, zsl_s, zc_n, zc_i, zc_l, zc_r, zc_u, zca_n, zca_i, zca_l, zca_r, zca_u, zrt_i, zrt_z, zrt_o, z_cal_0, z_cal_s, true_and, and_true, List.nil_append, List.cons_append, Option.toList_some, Option.toList_none, Nat.reduceAdd, Nat.reduceBEq, Nat.reduceLT, Nat.reduceLeDiff, Nat.reduceSub, Int.reduceAdd, Int.reduceLE, Int.reduceToNat, Int.cast_ofNat_Int, Bool.or_true, Bool.true_or, Bool.or_false, Bool.false_or, Nat.le_refl, Nat.zero_le, or_true, true_or, or_false, false_or, not_true_eq_false, not_false_eq_true, not_false_iff, false_implies, true_implies, eq_self, zo_iconst, zo_bipush, zo_sipush, zo_lconst, zo_ldc, zo_ldc_w, zo_ldc2_w, zo_iload_n, zo_iload, zo_lload_n, zo_lload, zo_aload_n, zo_aload, zo_istore_n, zo_istore, zo_lstore_n, zo_lstore, zo_astore_n, zo_astore, zo_iinc, zo_iadd, zo_isub, zo_imul, zo_iand, zo_ior, zo_ixor, zo_ishl, zo_ishr, zo_iushr, zo_idiv, zo_irem, zo_ladd, zo_lsub, zo_lmul, zo_ldiv, zo_lrem, zo_lcmp, zo_i2l, zo_i2b, zo_i2s, zo_dup, zo_dup2, zo_aconst_null, zo_if_icmp, zo_ifCond, zo_goto, zo_ifnull, zo_ifnonnull, zo_iaload, zo_baload, zo_laload, zo_aaload, zo_iastore, zo_bastore, zo_lastore, zo_arraylength, zo_getfield, zo_putfield, zo_tableswitch, zo_lookupswitch, zo_ireturn, zo_lreturn, zo_areturn, zo_return, zo_invokestatic, zo_invokevirtual, zo_new, zo_invokespecial, zo_newarray, zo_anewarray, zo_aastore, zy_0_1, zy_0_2, zy_0_3, zy_1_1, zy_1_2, zy_2_1, zy_2_2, zy_2_3, zy_3_0, zy_4_3, zy_5_1, zy_5_2, zy_6_5, zy_6_6, zy_6_7, zy_6_8, zy_6_9, zy_6_10, zy_7_2, zy_7_6, zy_7_9, zy_7_10, zy_7_11, zy_7_12, zy_7_14, zy_7_21, zy_7_30, zq_iconst, zq_bipush, zq_sipush, zq_lconst0, zq_lconst1, zq_ldc, zq_ldc_w, zq_ldc2_w, zq_iload0, zq_iload1, zq_iload2, zq_iload3, zq_iload, zq_lload0, zq_lload1, zq_lload2, zq_lload3, zq_lload, zq_aload0, zq_aload1, zq_aload2, zq_aload3, zq_aload, zq_istore0, zq_istore1, zq_istore2, zq_istore3, zq_istore, zq_lstore0, zq_lstore1, zq_lstore2, zq_lstore3, zq_lstore, zq_astore0, zq_astore0N, zq_astore1, zq_astore1N, zq_astore2, zq_astore2N, zq_astore3, zq_astore3N, zq_astore, zq_astoreN, zq_iinc, zq_iadd, zq_isub, zq_imul, zq_iand, zq_ior, zq_ixor, zq_ishl, zq_ishr, zq_iushr, zq_idiv, zq_irem, zq_ladd, zq_lsub, zq_lmul, zq_ldiv, zq_lrem, zq_lcmp, zq_i2l, zq_i2b, zq_i2s, zq_dup_i, zq_dup_r, zq_dup2, zq_null, zq_icmp_eq, zq_if_eq, zq_icmp_ne, zq_if_ne, zq_icmp_lt, zq_if_lt, zq_icmp_ge, zq_if_ge, zq_icmp_gt, zq_if_gt, zq_icmp_le, zq_if_le, zq_goto, zq_ifnull_r, zq_ifnull_n, zq_ifnonnull_r, zq_ifnonnull_n, zq_iaload, zq_baload, zq_laload, zq_aaload, zq_iastore, zq_bastore, zq_lastore, zq_alen, zq_getf, zq_put, zq_tsw, zq_lsw, zq_ireturn, zq_lreturn, zq_areturn, zq_areturnN, zq_return, zq_invokestatic, zq_invokevirtual, zq_new, zq_invokespecial, zq_newarray, zq_anewarray, zq_aastore, zi_m1, zi_0, zi_1, zi_2, zi_3, zi_4, zi_5, zi_6, zi_8, zi_16, zb_m10, zb_m4, zb_m3, zb_m2, zb_6, zb_7, zb_8, zb_9, zb_10, zb_16, zb_20, zb_23, zb_30, zb_32, zb_35, zb_46, zb_48, zb_56, zb_57, zb_59, zb_63, zb_70, zb_98, zb_99, zb_100, zb_111, zb_112, zs_192, zs_255, zs_256, zs_511, zs_512, zs_12345, zf_X8_7_0, zf_X8_13_0, zf_X8_112_0, zf_X8_16_0, zf_X8_19_0, zf_X8_22_0, zf_X8_115_0, zf_X8_25_0, zf_X8_28_0, zf_X8_78_0, zf_X8_82_0, zf_X8_85_0, zf_X8_144_0, zf_X8_31_0, zf_X8_137_0, zf_X8_34_0, zf_X8_38_0, zf_X8_41_0, zf_X8_44_0, zf_X8_47_0, zf_X8_50_0, zf_X8_234_0, zf_X8_53_0, zf_X8_56_0, zf_X8_59_0, zf_X8_62_0, zf_X8_66_0, zf_X8_69_0, zf_X8_72_0, zf_X8_75_0, zf_X8_244_0, zkc_X8_240, zkc_X8_253, zkl_X8_92, zkl_X8_262, zkl_X8_257, za_M_1, za_M_2, za_M_3, za_M_4, za_M_5, za_M_6, za_M_7, za_M_8, za_M_9, za_M_10, za_M_11, za_M_12, za_M_13, za_M_14, za_M_15, za_M_16, za_M_17, za_M_18, za_M_19, za_M_20, za_M_21, za_M_22, dX8_set_0, dX8_set_1, dX8_set_2, dX8_set_5, dX8_set_6, dX8_set_9, dX8_set_10, dX8_set_11, dX8_set_12, dX8_set_15, dX8_set_17, dX8_set_20, dX8_set_21, dX8_set_22, dX8_set_25, dX8_set_27, dX8_set_30, dX8_set_32, dX8_set_34, dX8_set_35, dX8_set_36, dX8_set_37, dX8_set_40, dX8_set_43, dX8_set_44, dX8_set_45, dX8_set_47, dX8_set_50, dX8_set_53, dX8_set_55, dX8_set_56, dX8_set_57, dX8_set_60, dX8_set_61, dX8_set_64, dX8_set_67, dX8_set_68, dX8_set_69, dX8_set_72, dX8_set_73, dX8_set_76, dX8_set_79, dX8_set_80, dX8_set_83, dX8_set_85, dX8_set_86, dX8_set_87, dX8_set_90, dX8_set_91, dX8_set_94, dX8_set_95, dX8_set_98, dX8_set_101, dX8_set_102, dX8_set_103, dX8_set_104, dX8_set_107, dX8_set_108, dX8_set_111, dX8_set_112, dX8_set_115, dX8_set_118, dX8_set_119, dX8_set_120, dX8_set_121, dX8_set_124, dX8_set_125, dX8_set_128, dX8_set_129, dX8_set_132, dX8_set_135, dX8_set_137, cr_X8_set_94, wr_X8_in]
        simp only [Int32.reduceLE, Int32.reduceLT, Int32.reduceAdd, Int32.reduceSub, and_self, and_true, true_and, false_and, and_false, true_implies, false_implies, not_true_eq_false, not_false_eq_true, z10, z01, z20, me02, me12, me21, mt0, mt1, mt2, mi02, mi12, z_rd, Nat.reduceEqDiff, if_true, if_false]
        rw [g9]
        refine ⟨fun d => ?_, fun d => ?_⟩
        · obtain ⟨ev, hv⟩ := i_inI (v := v) (n := 10) ⟨by omega, by omega⟩ (by omega)
          have hv1 : 1 ≤ cn v := by
            have := d.1
            rw [ev, n_ti (by omega)] at this
            omega
          have g1 : q_set T 1 v = nI (tbu T) := by unfold q_set; rw [if_neg (fun q => absurd q.1 (by decide)), if_pos ⟨rfl, d⟩]
          have g2 : u_set T 1 v = (T.1, (T.2.1.1, cn v, T.2.1.2.2), T.2.2) := by unfold u_set; rw [if_neg (fun q => absurd q.1 (by decide)), if_pos ⟨rfl, d⟩]
          rw [g1, g2] at hk
          rw [n2]
          refine hk _ (MR_Wnum hM ⟨hI.1, by dsimp only; omega, by dsimp only; omega, hI.2.2.2⟩ ⟨?_, ?_, ?_⟩ (fun a ha => by dsimp only; rw [z_u_o ha, z_u_o ha, z_u_o ha]) (fun j hj => by dsimp only; rw [z_u_nj (by omega), z_u_nj (by omega), z_u_nj (by omega)]))
          · simp only [z_rd, Nat.reduceEqDiff, true_and, and_true, and_self, false_and, and_false, if_true, if_false]
            exact n1
          · simp only [z_rd, Nat.reduceEqDiff, true_and, and_true, and_self, false_and, and_false, if_true, if_false]
            exact ev
          · simp only [z_rd, Nat.reduceEqDiff, true_and, and_true, and_self, false_and, and_false, if_true, if_false]
            exact n3
        · have g1 : q_set T 1 v = -2 := by unfold q_set; rw [if_neg (fun q => absurd q.1 (by decide)), if_neg (fun q => d q.2), if_neg (fun q => absurd q.1 (by decide))]
          have g2 : u_set T 1 v = T := by unfold u_set; rw [if_neg (fun q => absurd q.1 (by decide)), if_neg (fun q => d q.2), if_neg (fun q => absurd q.1 (by decide))]
          rw [g1, g2] at hk
          exact hk S hM
      · by_cases w2 : w = 2
        · subst w2
          refine hK (z_in []) 90 _ _ _ _ _ (Nat.zero_le _) ?_
          simp (config := { maxSteps := 10000000 }) only [z40, z20, z10, z01, zm0, z0m, ze_s, ze_ok, zt_s, zt_t, zt_f, zl_I, zl_J, zl_R, zl_N, zl_C, zl_K, zl_M, zl_ar0, zl_ar1, zl_ar2, zl_ar3, zl_as0, zl_as1, zl_as2, zl_al, zl_gf, zl_gr, zl_pf, zl_iv, zl_ivn, zlk_n, zlk_c, ztb_n, ztb_c, zin_n, zin_1, zin_c, Int.reduceLT, decide_true, decide_false, Bool.true_and, Bool.and_true, List.length_cons, List.length_nil, Int.reduceSub, Int.reduceEq, Int.natCast_zero, zk_s, z_in_n, z_in_c, z_gt_0, z_gt_s, zst_0, zst_1, zst_s, zsl_0, zsl_1, zsl_s, zc_n, zc_i, zc_l, zc_r, zc_u, zca_n, zca_i, zca_l, zca_r, zca_u, zrt_i, zrt_z, zrt_o, z_cal_0, z_cal_s, true_and, and_true, List.nil_append, List.cons_append, Option.toList_some, Option.toList_none, Nat.reduceAdd, Nat.reduceBEq, Nat.reduceLT, Nat.reduceLeDiff, Nat.reduceSub, Int.reduceAdd, Int.reduceLE, Int.reduceToNat, Int.cast_ofNat_Int, Bool.or_true, Bool.true_or, Bool.or_false, Bool.false_or, Nat.le_refl, Nat.zero_le, or_true, true_or, or_false, false_or, not_true_eq_false, not_false_eq_true, not_false_iff, false_implies, true_implies, eq_self, zo_iconst, zo_bipush, zo_sipush, zo_lconst, zo_ldc, zo_ldc_w, zo_ldc2_w, zo_iload_n, zo_iload, zo_lload_n, zo_lload, zo_aload_n, zo_aload, zo_istore_n, zo_istore, zo_lstore_n, zo_lstore, zo_astore_n, zo_astore, zo_iinc, zo_iadd, zo_isub, zo_imul, zo_iand, zo_ior, zo_ixor, zo_ishl, zo_ishr, zo_iushr, zo_idiv, zo_irem, zo_ladd, zo_lsub, zo_lmul, zo_ldiv, zo_lrem, zo_lcmp, zo_i2l, zo_i2b, zo_i2s, zo_dup, zo_dup2, zo_aconst_null, zo_if_icmp, zo_ifCond, zo_goto, zo_ifnull, zo_ifnonnull, zo_iaload, zo_baload, zo_laload, zo_aaload, zo_iastore, zo_bastore, zo_lastore, zo_arraylength, zo_getfield, zo_putfield, zo_tableswitch, zo_lookupswitch, zo_ireturn, zo_lreturn, zo_areturn, zo_return, zo_invokestatic, zo_invokevirtual, zo_new, zo_invokespecial, zo_newarray, zo_anewarray, zo_aastore, zy_0_1, zy_0_2, zy_0_3, zy_1_1, zy_1_2, zy_2_1, zy_2_2, zy_2_3, zy_3_0, zy_4_3, zy_5_1, zy_5_2, zy_6_5, zy_6_6, zy_6_7, zy_6_8, zy_6_9, zy_6_10, zy_7_2, zy_7_6, zy_7_9, zy_7_10, zy_7_11, zy_7_12, zy_7_14, zy_7_21, zy_7_30, zq_iconst, zq_bipush, zq_sipush, zq_lconst0, zq_lconst1, zq_ldc, zq_ldc_w, zq_ldc2_w, zq_iload0, zq_iload1, zq_iload2, zq_iload3, zq_iload, zq_lload0, zq_lload1, zq_lload2, zq_lload3, zq_lload, zq_aload0, zq_aload1, zq_aload2, zq_aload3, zq_aload, zq_istore0, zq_istore1, zq_istore2, zq_istore3, zq_istore, zq_lstore0, zq_lstore1, zq_lstore2, zq_lstore3, zq_lstore, zq_astore0, zq_astore0N, zq_astore1, zq_astore1N, zq_astore2, zq_astore2N, zq_astore3, zq_astore3N, zq_astore, zq_astoreN, zq_iinc, zq_iadd, zq_isub, zq_imul, zq_iand, zq_ior, zq_ixor, zq_ishl, zq_ishr, zq_iushr, zq_idiv, zq_irem, zq_ladd, zq_lsub, zq_lmul, zq_ldiv, zq_lrem, zq_lcmp, zq_i2l, zq_i2b, zq_i2s, zq_dup_i, zq_dup_r, zq_dup2, zq_null, zq_icmp_eq, zq_if_eq, zq_icmp_ne, zq_if_ne, zq_icmp_lt, zq_if_lt, zq_icmp_ge, zq_if_ge, zq_icmp_gt, zq_if_gt, zq_icmp_le, zq_if_le, zq_goto, zq_ifnull_r, zq_ifnull_n, zq_ifnonnull_r, zq_ifnonnull_n, zq_iaload, zq_baload, zq_laload, zq_aaload, zq_iastore, zq_bastore, zq_lastore, zq_alen, zq_getf, zq_put, zq_tsw, zq_lsw, zq_ireturn, zq_lreturn, zq_areturn, zq_areturnN, zq_return, zq_invokestatic, zq_invokevirtual, zq_new, zq_invokespecial, zq_newarray, zq_anewarray, zq_aastore, zi_m1, zi_0, zi_1, zi_2, zi_3, zi_4, zi_5, zi_6, zi_8, zi_16, zb_m10, zb_m4, zb_m3, zb_m2, zb_6, zb_7, zb_8, zb_9, zb_10, zb_16, zb_20, zb_23, zb_30, zb_32, zb_35, zb_46, zb_48, zb_56, zb_57, zb_59, zb_63, zb_70, zb_98, zb_99, zb_100, zb_111, zb_112, zs_192, zs_255, zs_256, zs_511, zs_512, zs_12345, zf_X8_7_0, zf_X8_13_0, zf_X8_112_0, zf_X8_16_0, zf_X8_19_0, zf_X8_22_0, zf_X8_115_0, zf_X8_25_0, zf_X8_28_0, zf_X8_78_0, zf_X8_82_0, zf_X8_85_0, zf_X8_144_0, zf_X8_31_0, zf_X8_137_0, zf_X8_34_0, zf_X8_38_0, zf_X8_41_0, zf_X8_44_0, zf_X8_47_0, zf_X8_50_0, zf_X8_234_0, zf_X8_53_0, zf_X8_56_0, zf_X8_59_0, zf_X8_62_0, zf_X8_66_0, zf_X8_69_0, zf_X8_72_0, zf_X8_75_0, zf_X8_244_0, zkc_X8_240, zkc_X8_253, zkl_X8_92, zkl_X8_262, zkl_X8_257, za_M_1, za_M_2, za_M_3, za_M_4, za_M_5, za_M_6, za_M_7, za_M_8, za_M_9, za_M_10, za_M_11, za_M_12, za_M_13, za_M_14, za_M_15, za_M_16, za_M_17, za_M_18, za_M_19, za_M_20, za_M_21, za_M_22, dX8_set_0, dX8_set_1, dX8_set_2, dX8_set_5, dX8_set_6, dX8_set_9, dX8_set_10, dX8_set_11, dX8_set_12, dX8_set_15, dX8_set_17, dX8_set_20, dX8_set_21, dX8_set_22, dX8_set_25, dX8_set_27, dX8_set_30, dX8_set_32, dX8_set_34, dX8_set_35, dX8_set_36, dX8_set_37, dX8_set_40, dX8_set_43, dX8_set_44, dX8_set_45, dX8_set_47, dX8_set_50, dX8_set_53, dX8_set_55, dX8_set_56, dX8_set_57, dX8_set_60, dX8_set_61, dX8_set_64, dX8_set_67, dX8_set_68, dX8_set_69, dX8_set_72, dX8_set_73, dX8_set_76, dX8_set_79, dX8_set_80, dX8_set_83, dX8_set_85, dX8_set_86, dX8_set_87, dX8_set_90, dX8_set_91, dX8_set_94, dX8_set_95, dX8_set_98, dX8_set_101, dX8_set_102, dX8_set_103, dX8_set_104, dX8_set_107, dX8_set_108, dX8_set_111, dX8_set_112, dX8_set_115, dX8_set_118, dX8_set_119, dX8_set_120, dX8_set_121, dX8_set_124, dX8_set_125, dX8_set_128, dX8_set_129, dX8_set_132, dX8_set_135, dX8_set_137, cr_X8_set_94, wr_X8_in]
          simp only [Int32.reduceLE, Int32.reduceLT, Int32.reduceAdd, Int32.reduceSub, and_self, and_true, true_and, false_and, and_false, true_implies, false_implies, not_true_eq_false, not_false_eq_true, z10, z01, z20, me02, me12, me21, mt0, mt1, mt2, mi02, mi12, z_rd, Nat.reduceEqDiff, if_true, if_false]
          rw [w_in (m := 16) (by decide)]
          refine ⟨fun d => ?_, fun d => ?_⟩
          · obtain ⟨ev, hv⟩ := i_inI d (by omega)
            have g1 : q_set T 2 v = nI (tdt T) := by unfold q_set; rw [if_neg (fun q => absurd q.1 (by decide)), if_neg (fun q => absurd q.1 (by decide)), if_pos ⟨rfl, d⟩]
            have g2 : u_set T 2 v = (T.1, (T.2.1.1, T.2.1.2.1, cn v), T.2.2) := by unfold u_set; rw [if_neg (fun q => absurd q.1 (by decide)), if_neg (fun q => absurd q.1 (by decide)), if_pos ⟨rfl, d⟩]
            rw [g1, g2] at hk
            rw [n3]
            refine hk _ (MR_Wnum hM ⟨hI.1, hI.2.1, hI.2.2.1, by dsimp only; omega⟩ ⟨?_, ?_, ?_⟩ (fun a ha => by dsimp only; rw [z_u_o ha, z_u_o ha, z_u_o ha]) (fun j hj => by dsimp only; rw [z_u_nj (by omega), z_u_nj (by omega), z_u_nj (by omega)]))
            · simp only [z_rd, Nat.reduceEqDiff, true_and, and_true, and_self, false_and, and_false, if_true, if_false]
              exact n1
            · simp only [z_rd, Nat.reduceEqDiff, true_and, and_true, and_self, false_and, and_false, if_true, if_false]
              exact n2
            · simp only [z_rd, Nat.reduceEqDiff, true_and, and_true, and_self, false_and, and_false, if_true, if_false]
              exact ev
          · have g1 : q_set T 2 v = -2 := by unfold q_set; rw [if_neg (fun q => absurd q.1 (by decide)), if_neg (fun q => absurd q.1 (by decide)), if_neg (fun q => d q.2)]
            have g2 : u_set T 2 v = T := by unfold u_set; rw [if_neg (fun q => absurd q.1 (by decide)), if_neg (fun q => absurd q.1 (by decide)), if_neg (fun q => d q.2)]
            rw [g1, g2] at hk
            exact hk S hM
        · refine hK (z_in []) 90 _ _ _ _ _ (Nat.zero_le _) ?_
          simp (config := { maxSteps := 10000000 }) only [z40, z20, z10, z01, zm0, z0m, ze_s, ze_ok, zt_s, zt_t, zt_f, zl_I, zl_J, zl_R, zl_N, zl_C, zl_K, zl_M, zl_ar0, zl_ar1, zl_ar2, zl_ar3, zl_as0, zl_as1, zl_as2, zl_al, zl_gf, zl_gr, zl_pf, zl_iv, zl_ivn, zlk_n, zlk_c, ztb_n, ztb_c, zin_n, zin_1, zin_c, Int.reduceLT, decide_true, decide_false, Bool.true_and, Bool.and_true, List.length_cons, List.length_nil, Int.reduceSub, Int.reduceEq, Int.natCast_zero, zk_s, z_in_n, z_in_c, z_gt_0, z_gt_s, zst_0, zst_1, zst_s, zsl_0, zsl_1, zsl_s, zc_n, zc_i, zc_l, zc_r, zc_u, zca_n, zca_i, zca_l, zca_r, zca_u, zrt_i, zrt_z, zrt_o, z_cal_0, z_cal_s, true_and, and_true, List.nil_append, List.cons_append, Option.toList_some, Option.toList_none, Nat.reduceAdd, Nat.reduceBEq, Nat.reduceLT, Nat.reduceLeDiff, Nat.reduceSub, Int.reduceAdd, Int.reduceLE, Int.reduceToNat, Int.cast_ofNat_Int, Bool.or_true, Bool.true_or, Bool.or_false, Bool.false_or, Nat.le_refl, Nat.zero_le, or_true, true_or, or_false, false_or, not_true_eq_false, not_false_eq_true, not_false_iff, false_implies, true_implies, eq_self, zo_iconst, zo_bipush, zo_sipush, zo_lconst, zo_ldc, zo_ldc_w, zo_ldc2_w, zo_iload_n, zo_iload, zo_lload_n, zo_lload, zo_aload_n, zo_aload, zo_istore_n, zo_istore, zo_lstore_n, zo_lstore, zo_astore_n, zo_astore, zo_iinc, zo_iadd, zo_isub, zo_imul, zo_iand, zo_ior, zo_ixor, zo_ishl, zo_ishr, zo_iushr, zo_idiv, zo_irem, zo_ladd, zo_lsub, zo_lmul, zo_ldiv, zo_lrem, zo_lcmp, zo_i2l, zo_i2b, zo_i2s, zo_dup, zo_dup2, zo_aconst_null, zo_if_icmp, zo_ifCond, zo_goto, zo_ifnull, zo_ifnonnull, zo_iaload, zo_baload, zo_laload, zo_aaload, zo_iastore, zo_bastore, zo_lastore, zo_arraylength, zo_getfield, zo_putfield, zo_tableswitch, zo_lookupswitch, zo_ireturn, zo_lreturn, zo_areturn, zo_return, zo_invokestatic, zo_invokevirtual, zo_new, zo_invokespecial, zo_newarray, zo_anewarray, zo_aastore, zy_0_1, zy_0_2, zy_0_3, zy_1_1, zy_1_2, zy_2_1, zy_2_2, zy_2_3, zy_3_0, zy_4_3, zy_5_1, zy_5_2, zy_6_5, zy_6_6, zy_6_7, zy_6_8, zy_6_9, zy_6_10, zy_7_2, zy_7_6, zy_7_9, zy_7_10, zy_7_11, zy_7_12, zy_7_14, zy_7_21, zy_7_30, zq_iconst, zq_bipush, zq_sipush, zq_lconst0, zq_lconst1, zq_ldc, zq_ldc_w, zq_ldc2_w, zq_iload0, zq_iload1, zq_iload2, zq_iload3, zq_iload, zq_lload0, zq_lload1, zq_lload2, zq_lload3, zq_lload, zq_aload0, zq_aload1, zq_aload2, zq_aload3, zq_aload, zq_istore0, zq_istore1, zq_istore2, zq_istore3, zq_istore, zq_lstore0, zq_lstore1, zq_lstore2, zq_lstore3, zq_lstore, zq_astore0, zq_astore0N, zq_astore1, zq_astore1N, zq_astore2, zq_astore2N, zq_astore3, zq_astore3N, zq_astore, zq_astoreN, zq_iinc, zq_iadd, zq_isub, zq_imul, zq_iand, zq_ior, zq_ixor, zq_ishl, zq_ishr, zq_iushr, zq_idiv, zq_irem, zq_ladd, zq_lsub, zq_lmul, zq_ldiv, zq_lrem, zq_lcmp, zq_i2l, zq_i2b, zq_i2s, zq_dup_i, zq_dup_r, zq_dup2, zq_null, zq_icmp_eq, zq_if_eq, zq_icmp_ne, zq_if_ne, zq_icmp_lt, zq_if_lt, zq_icmp_ge, zq_if_ge, zq_icmp_gt, zq_if_gt, zq_icmp_le, zq_if_le, zq_goto, zq_ifnull_r, zq_ifnull_n, zq_ifnonnull_r, zq_ifnonnull_n, zq_iaload, zq_baload, zq_laload, zq_aaload, zq_iastore, zq_bastore, zq_lastore, zq_alen, zq_getf, zq_put, zq_tsw, zq_lsw, zq_ireturn, zq_lreturn, zq_areturn, zq_areturnN, zq_return, zq_invokestatic, zq_invokevirtual, zq_new, zq_invokespecial, zq_newarray, zq_anewarray, zq_aastore, zi_m1, zi_0, zi_1, zi_2, zi_3, zi_4, zi_5, zi_6, zi_8, zi_16, zb_m10, zb_m4, zb_m3, zb_m2, zb_6, zb_7, zb_8, zb_9, zb_10, zb_16, zb_20, zb_23, zb_30, zb_32, zb_35, zb_46, zb_48, zb_56, zb_57, zb_59, zb_63, zb_70, zb_98, zb_99, zb_100, zb_111, zb_112, zs_192, zs_255, zs_256, zs_511, zs_512, zs_12345, zf_X8_7_0, zf_X8_13_0, zf_X8_112_0, zf_X8_16_0, zf_X8_19_0, zf_X8_22_0, zf_X8_115_0, zf_X8_25_0, zf_X8_28_0, zf_X8_78_0, zf_X8_82_0, zf_X8_85_0, zf_X8_144_0, zf_X8_31_0, zf_X8_137_0, zf_X8_34_0, zf_X8_38_0, zf_X8_41_0, zf_X8_44_0, zf_X8_47_0, zf_X8_50_0, zf_X8_234_0, zf_X8_53_0, zf_X8_56_0, zf_X8_59_0, zf_X8_62_0, zf_X8_66_0, zf_X8_69_0, zf_X8_72_0, zf_X8_75_0, zf_X8_244_0, zkc_X8_240, zkc_X8_253, zkl_X8_92, zkl_X8_262, zkl_X8_257, za_M_1, za_M_2, za_M_3, za_M_4, za_M_5, za_M_6, za_M_7, za_M_8, za_M_9, za_M_10, za_M_11, za_M_12, za_M_13, za_M_14, za_M_15, za_M_16, za_M_17, za_M_18, za_M_19, za_M_20, za_M_21, za_M_22, dX8_set_0, dX8_set_1, dX8_set_2, dX8_set_5, dX8_set_6, dX8_set_9, dX8_set_10, dX8_set_11, dX8_set_12, dX8_set_15, dX8_set_17, dX8_set_20, dX8_set_21, dX8_set_22, dX8_set_25, dX8_set_27, dX8_set_30, dX8_set_32, dX8_set_34, dX8_set_35, dX8_set_36, dX8_set_37, dX8_set_40, dX8_set_43, dX8_set_44, dX8_set_45, dX8_set_47, dX8_set_50, dX8_set_53, dX8_set_55, dX8_set_56, dX8_set_57, dX8_set_60, dX8_set_61, dX8_set_64, dX8_set_67, dX8_set_68, dX8_set_69, dX8_set_72, dX8_set_73, dX8_set_76, dX8_set_79, dX8_set_80, dX8_set_83, dX8_set_85, dX8_set_86, dX8_set_87, dX8_set_90, dX8_set_91, dX8_set_94, dX8_set_95, dX8_set_98, dX8_set_101, dX8_set_102, dX8_set_103, dX8_set_104, dX8_set_107, dX8_set_108, dX8_set_111, dX8_set_112, dX8_set_115, dX8_set_118, dX8_set_119, dX8_set_120, dX8_set_121, dX8_set_124, dX8_set_125, dX8_set_128, dX8_set_129, dX8_set_132, dX8_set_135, dX8_set_137, cr_X8_set_94, wr_X8_in]
          have w3 : ¬ i_in w 3 := fun q => (i_in3 q).elim w0 (fun q => q.elim w1 w2)
          have g1 : q_set T w v = -2 := by simp [q_set, w0, w1, w2]
          have g2 : u_set T w v = T := by simp [u_set, w0, w1, w2]
          rw [g1, g2] at hk
          have fin := hk S hM
          simp only [w_in (m := 2) (M := 2) (by decide), w3, w0, w1, w2, false_implies, not_false_eq_true, true_implies, true_and, and_true]
          exact fin
  · exact h.elim
theorem ok_X8_set : z_Ok z_shM yX8_set cX8_set 6 (some .int) ({ frames := 1, cells := 0, slots := 0, locals := 22 } : Room) 0 wp_X8_set := z_Ok_of pu_X8_set z_fX8_ok z_kX8_ok co_X8_set ⟨by decide, by decide⟩ (by decide +kernel)
theorem rec_X8_set : z_rec z_shM wp_X8_set 7 := by
  intro as S post h
  unfold wp_X8_set at h
  split at h
  · exact ⟨_, _, _, rfl, rfl⟩
  · exact h.elim
def wp_X8_burn : ZW := fun as S k => match as with
  | [.ref 0, .int v] => ∃ T : ZT, MR T S ∧ ∀ S', MR (u_burn T v) S' → k (some (.int (q_burn T v))) S'
  | _ => False
theorem wr_X8_burn {v : Int32} {S : ZS} {k : Option Value → ZS → Prop} : wp_X8_burn [.ref 0, .int v] S k = (∃ T : ZT, MR T S ∧ ∀ S', MR (u_burn T v) S' → k (some (.int (q_burn T v))) S') := rfl
def cs_X8_burn : List (Nat × ZC) := [(94, (3, 0, true, wp_X8_in)), (140, (2, 0, true, wp_X8_isIn))]
theorem cr_X8_burn_94 : cs_X8_burn.lookup 94 = some (3, 0, true, wp_X8_in) := rfl
theorem cr_X8_burn_140 : cs_X8_burn.lookup 140 = some (2, 0, true, wp_X8_isIn) := rfl
set_option maxRecDepth 20000 in
theorem co_X8_burn : z_csok RX8 ({ frames := 1, cells := 0, slots := 0, locals := 22 } : Room) z_shM cs_X8_burn := z_cs2 (z_csS ok_X8_in (z_g 789 (by decide +kernel) rfl) (z_g 790 (by decide +kernel) rfl) (z_g 51 (by decide +kernel) rfl) (z_g 791 (by decide +kernel) rfl) rfl rfl (by decide +kernel) ⟨by decide, by decide⟩)
  (z_cs2 (z_csS ok_X8_isIn (z_g 855 (by decide +kernel) rfl) (z_g 856 (by decide +kernel) rfl) (z_g 51 (by decide +kernel) rfl) (z_g 857 (by decide +kernel) rfl) rfl rfl (by decide +kernel) ⟨by decide, by decide⟩)
  (z_cs0))
set_option maxHeartbeats 4000000 in
set_option maxRecDepth 20000 in
theorem pu_X8_burn : z_Pure cX8_burn 2 z_shM z_fX8 cs_X8_burn z_kcX8 z_klX8 (some .int) 0 wp_X8_burn := by
  intro as S post h
  unfold wp_X8_burn at h
  split at h
  · rename_i v
    refine ⟨Nat.le_of_ble_eq_true rfl, fun K hK => ?_⟩
    change K 0 0 [some (.ref 0), some (.int v)] [] S
    obtain ⟨T, hM, hk⟩ := h
    obtain ⟨f1, f2, f3⟩ := id hM.2.2.2.1
    have hbr : ab_brn (tnb T) (tod T) := hM.1.2.2.2.1
    have hB := (ab_bits_lt _ hbr.2).1
    refine hK (z_in []) 60 _ _ _ _ _ (Nat.zero_le _) ?_
    simp (config := { maxSteps := 10000000 }) only [z40, z20, z10, z01, zm0, z0m, ze_s, ze_ok, zt_s, zt_t, zt_f, zl_I, zl_J, zl_R, zl_N, zl_C, zl_K, zl_M, zl_ar0, zl_ar1, zl_ar2, zl_ar3, zl_as0, zl_as1, zl_as2, zl_al, zl_gf, zl_gr, zl_pf, zl_iv, zl_ivn, zlk_n, zlk_c, ztb_n, ztb_c, zin_n, zin_1, zin_c, Int.reduceLT, decide_true, decide_false, Bool.true_and, Bool.and_true, List.length_cons, List.length_nil, Int.reduceSub, Int.reduceEq, Int.natCast_zero, zk_s, z_in_n, z_in_c, z_gt_0, z_gt_s, zst_0, zst_1, zst_s, zsl_0, zsl_1, zsl_s, zc_n, zc_i, zc_l, zc_r, zc_u, zca_n, zca_i, zca_l, zca_r, zca_u, zrt_i, zrt_z, zrt_o, z_cal_0, z_cal_s, true_and, and_true, List.nil_append, List.cons_append, Option.toList_some, Option.toList_none, Nat.reduceAdd, Nat.reduceBEq, Nat.reduceLT, Nat.reduceLeDiff, Nat.reduceSub, Int.reduceAdd, Int.reduceLE, Int.reduceToNat, Int.cast_ofNat_Int, Bool.or_true, Bool.true_or, Bool.or_false, Bool.false_or, Nat.le_refl, Nat.zero_le, or_true, true_or, or_false, false_or, not_true_eq_false, not_false_eq_true, not_false_iff, false_implies, true_implies, eq_self, zo_iconst, zo_bipush, zo_sipush, zo_lconst, zo_ldc, zo_ldc_w, zo_ldc2_w, zo_iload_n, zo_iload, zo_lload_n, zo_lload, zo_aload_n, zo_aload, zo_istore_n, zo_istore, zo_lstore_n, zo_lstore, zo_astore_n, zo_astore, zo_iinc, zo_iadd, zo_isub, zo_imul, zo_iand, zo_ior, zo_ixor, zo_ishl, zo_ishr, zo_iushr, zo_idiv, zo_irem, zo_ladd, zo_lsub, zo_lmul, zo_ldiv, zo_lrem, zo_lcmp, zo_i2l, zo_i2b, zo_i2s, zo_dup, zo_dup2, zo_aconst_null, zo_if_icmp, zo_ifCond, zo_goto, zo_ifnull, zo_ifnonnull, zo_iaload, zo_baload, zo_laload, zo_aaload, zo_iastore, zo_bastore, zo_lastore, zo_arraylength, zo_getfield, zo_putfield, zo_tableswitch, zo_lookupswitch, zo_ireturn, zo_lreturn, zo_areturn, zo_return, zo_invokestatic, zo_invokevirtual, zo_new, zo_invokespecial, zo_newarray, zo_anewarray, zo_aastore, zy_0_1, zy_0_2, zy_0_3, zy_1_1, zy_1_2, zy_2_1, zy_2_2, zy_2_3, zy_3_0, zy_4_3, zy_5_1, zy_5_2, zy_6_5, zy_6_6, zy_6_7, zy_6_8, zy_6_9, zy_6_10, zy_7_2, zy_7_6, zy_7_9, zy_7_10, zy_7_11, zy_7_12, zy_7_14, zy_7_21, zy_7_30, zq_iconst, zq_bipush, zq_sipush, zq_lconst0, zq_lconst1, zq_ldc, zq_ldc_w, zq_ldc2_w, zq_iload0, zq_iload1, zq_iload2, zq_iload3, zq_iload, zq_lload0, zq_lload1, zq_lload2, zq_lload3, zq_lload, zq_aload0, zq_aload1, zq_aload2, zq_aload3, zq_aload, zq_istore0, zq_istore1, zq_istore2, zq_istore3, zq_istore, zq_lstore0, zq_lstore1, zq_lstore2, zq_lstore3, zq_lstore, zq_astore0, zq_astore0N, zq_astore1, zq_astore1N, zq_astore2, zq_astore2N, zq_astore3, zq_astore3N, zq_astore, zq_astoreN, zq_iinc, zq_iadd, zq_isub, zq_imul, zq_iand, zq_ior, zq_ixor, zq_ishl, zq_ishr, zq_iushr, zq_idiv, zq_irem, zq_ladd, zq_lsub, zq_lmul, zq_ldiv, zq_lrem, zq_lcmp, zq_i2l, zq_i2b, zq_i2s, zq_dup_i, zq_dup_r, zq_dup2, zq_null, zq_icmp_eq, zq_if_eq, zq_icmp_ne, zq_if_ne, zq_icmp_lt, zq_if_lt, zq_icmp_ge, zq_if_ge, zq_icmp_gt, zq_if_gt, zq_icmp_le, zq_if_le, zq_goto, zq_ifnull_r, zq_ifnull_n, zq_ifnonnull_r, zq_ifnonnull_n, zq_iaload, zq_baload, zq_laload, zq_aaload, zq_iastore, zq_bastore, zq_lastore, zq_alen, zq_getf, zq_put, zq_tsw, zq_lsw, zq_ireturn, zq_lreturn, zq_areturn, zq_areturnN, zq_return, zq_invokestatic, zq_invokevirtual, zq_new, zq_invokespecial, zq_newarray, zq_anewarray, zq_aastore, zi_m1, zi_0, zi_1, zi_2, zi_3, zi_4, zi_5, zi_6, zi_8, zi_16, zb_m10, zb_m4, zb_m3, zb_m2, zb_6, zb_7, zb_8, zb_9, zb_10, zb_16, zb_20, zb_23, zb_30, zb_32, zb_35, zb_46, zb_48, zb_56, zb_57, zb_59, zb_63, zb_70, zb_98, zb_99, zb_100, zb_111, zb_112, zs_192, zs_255, zs_256, zs_511, zs_512, zs_12345, zf_X8_7_0, zf_X8_13_0, zf_X8_112_0, zf_X8_16_0, zf_X8_19_0, zf_X8_22_0, zf_X8_115_0, zf_X8_25_0, zf_X8_28_0, zf_X8_78_0, zf_X8_82_0, zf_X8_85_0, zf_X8_144_0, zf_X8_31_0, zf_X8_137_0, zf_X8_34_0, zf_X8_38_0, zf_X8_41_0, zf_X8_44_0, zf_X8_47_0, zf_X8_50_0, zf_X8_234_0, zf_X8_53_0, zf_X8_56_0, zf_X8_59_0, zf_X8_62_0, zf_X8_66_0, zf_X8_69_0, zf_X8_72_0, zf_X8_75_0, zf_X8_244_0, zkc_X8_240, zkc_X8_253, zkl_X8_92, zkl_X8_262, zkl_X8_257, za_M_1, za_M_2, za_M_3, za_M_4, za_M_5, za_M_6, za_M_7, za_M_8, za_M_9, za_M_10, za_M_11, za_M_12, za_M_13, za_M_14, za_M_15, za_M_16, za_M_17, za_M_18, za_M_19, za_M_20, za_M_21, za_M_22, dX8_burn_0, dX8_burn_1, dX8_burn_2, dX8_burn_4, dX8_burn_7, dX8_burn_10, dX8_burn_11, dX8_burn_14, dX8_burn_15, dX8_burn_18, dX8_burn_21, dX8_burn_23, dX8_burn_24, dX8_burn_25, dX8_burn_28, dX8_burn_29, dX8_burn_32, dX8_burn_33, dX8_burn_34, dX8_burn_35, dX8_burn_36, dX8_burn_39, dX8_burn_40, dX8_burn_41, dX8_burn_44, dX8_burn_45, dX8_burn_46, dX8_burn_49, dX8_burn_50, dX8_burn_51, dX8_burn_52, dX8_burn_53, dX8_burn_56, dX8_burn_57, dX8_burn_60, cr_X8_burn_94, cr_X8_burn_140, wr_X8_in, wr_X8_isIn]
    rw [w_in (m := 8) (by decide)]
    have bad : ¬ (i_in v 9 ∧ (tB T).testBit (cn v) = false) → post (some (.int (-2))) S := by
      intro c
      have g1 : q_burn T v = -2 := by unfold q_burn; rw [if_neg c]
      have g2 : u_burn T v = T := by unfold u_burn; rw [if_neg c]
      rw [g1, g2] at hk
      exact hk S hM
    refine ⟨fun c => ?_, fun c => bad (fun q => c q.1)⟩
    obtain ⟨ev, hv⟩ := i_inI c (by omega)
    have hbit := bt_is (tB T) hB (cn v) hv
    rw [← ev] at hbit
    rw [f2, hbit]
    refine ⟨fun d => bad (fun q => by rw [d] at q; exact absurd q.2 (by decide)), fun d => ?_⟩
    have hf : (tB T).testBit (cn v) = false := by cases q : (tB T).testBit (cn v) with
      | false => rfl
      | true => exact absurd q d
    obtain ⟨r1, r2⟩ := ab_brn_room hbr (show cn v ≤ 8 by omega) hf
    have cc : i_in v 9 ∧ (tB T).testBit (cn v) = false := ⟨c, hf⟩
    have g1 : q_burn T v = nI (tnb T + 1) := by unfold q_burn; rw [if_pos cc]
    have g2 : u_burn T v = wBr T (tnb T + 1, va_up (tod T) (tnb T) (cn v)) := by unfold u_burn; rw [if_pos cc]
    rw [g1, g2] at hk
    have eo : nI (tB T) ||| 1 <<< (v &&& 31) = nI (tB T ||| 2 ^ cn v) := by have := (bt_or (tB T) hB (cn v) hv).1; rw [← ev] at this; exact this
    simp only [f1, f2, n_cl (show tnb T < 2147483648 by omega), z_rd, Nat.reduceEqDiff, false_and, and_false, and_self, if_false, if_true, nI_1, eo]
    refine ⟨n_in r1 (by omega), hk _ (MR_Wbr hM r2 ⟨?_, ?_, fun i hi => ?_⟩ (fun a ha => by dsimp only; rw [z_u_o (by omega), z_u_o (by omega), z_u_o (by omega)]) (fun j hj => by dsimp only; rw [z_u_nj (by omega), z_u_nj (by omega), z_u_o (by omega)]))⟩
    · simp only [z_rd, Nat.reduceEqDiff, true_and, and_true, and_self, false_and, and_false, if_true, if_false]
    · simp only [z_rd, Nat.reduceEqDiff, true_and, and_true, and_self, false_and, and_false, if_true, if_false]
      rw [show tB (wBr T (tnb T + 1, va_up (tod T) (tnb T) (cn v))) = ab_bits (va_up (tod T) (tnb T) (cn v)) (tnb T + 1) from rfl, ab_bits_s, ab_bits_upd _ (Nat.le_refl _), va_up_self]
    · have hi : i < tnb T + 1 := hi
      show _ = nI (va_up (tod T) (tnb T) (cn v) i)
      simp only [z_rd, Nat.reduceEqDiff, true_and, and_true, and_self, false_and, and_false, if_true, if_false]
      by_cases e : i = tnb T
      · subst e; rw [if_pos rfl, va_up_self]; exact ev
      · rw [if_neg e, va_up_ne _ _ e]; exact f3 i (by omega)
  · exact h.elim
theorem ok_X8_burn : z_Ok z_shM yX8_burn cX8_burn 2 (some .int) ({ frames := 1, cells := 0, slots := 0, locals := 22 } : Room) 0 wp_X8_burn := z_Ok_of pu_X8_burn z_fX8_ok z_kX8_ok co_X8_burn ⟨by decide, by decide⟩ (by decide +kernel)
theorem rec_X8_burn : z_rec z_shM wp_X8_burn 7 := by
  intro as S post h
  unfold wp_X8_burn at h
  split at h
  · exact ⟨_, _, _, rfl, rfl⟩
  · exact h.elim
def wp_X8_back : ZW := fun as S k => match as with
  | [.ref 0] => ∃ T : ZT, MR T S ∧ ∀ S', MR (u_back T) S' → k (some (.int (q_back T))) S'
  | _ => False
theorem wr_X8_back {S : ZS} {k : Option Value → ZS → Prop} : wp_X8_back [.ref 0] S k = (∃ T : ZT, MR T S ∧ ∀ S', MR (u_back T) S' → k (some (.int (q_back T))) S') := rfl
def cs_X8_back : List (Nat × ZC) := []
set_option maxRecDepth 20000 in
theorem co_X8_back : z_csok RX8 ({ frames := 0, cells := 0, slots := 0, locals := 0 } : Room) z_shM cs_X8_back := z_cs0
set_option maxHeartbeats 4000000 in
set_option maxRecDepth 20000 in
theorem pu_X8_back : z_Pure cX8_back 1 z_shM z_fX8 cs_X8_back z_kcX8 z_klX8 (some .int) 0 wp_X8_back := by
  intro as S post h
  unfold wp_X8_back at h
  split at h
  · skip
    refine ⟨Nat.le_of_ble_eq_true rfl, fun K hK => ?_⟩
    change K 0 0 [some (.ref 0)] [] S
    obtain ⟨T, hM, hk⟩ := h
    obtain ⟨f1, f2, f3⟩ := id hM.2.2.2.1
    have hbr : ab_brn (tnb T) (tod T) := hM.1.2.2.2.1
    have hn9 := hbr.1
    refine hK (z_in []) 60 _ _ _ _ _ (Nat.zero_le _) ?_
    simp (config := { maxSteps := 10000000 }) only [z40, z20, z10, z01, zm0, z0m, ze_s, ze_ok, zt_s, zt_t, zt_f, zl_I, zl_J, zl_R, zl_N, zl_C, zl_K, zl_M, zl_ar0, zl_ar1, zl_ar2, zl_ar3, zl_as0, zl_as1, zl_as2, zl_al, zl_gf, zl_gr, zl_pf, zl_iv, zl_ivn, zlk_n, zlk_c, ztb_n, ztb_c, zin_n, zin_1, zin_c, Int.reduceLT, decide_true, decide_false, Bool.true_and, Bool.and_true, List.length_cons, List.length_nil, Int.reduceSub, Int.reduceEq, Int.natCast_zero, zk_s, z_in_n, z_in_c, z_gt_0, z_gt_s, zst_0, zst_1, zst_s, zsl_0, zsl_1, zsl_s, zc_n, zc_i, zc_l, zc_r, zc_u, zca_n, zca_i, zca_l, zca_r, zca_u, zrt_i, zrt_z, zrt_o, z_cal_0, z_cal_s, true_and, and_true, List.nil_append, List.cons_append, Option.toList_some, Option.toList_none, Nat.reduceAdd, Nat.reduceBEq, Nat.reduceLT, Nat.reduceLeDiff, Nat.reduceSub, Int.reduceAdd, Int.reduceLE, Int.reduceToNat, Int.cast_ofNat_Int, Bool.or_true, Bool.true_or, Bool.or_false, Bool.false_or, Nat.le_refl, Nat.zero_le, or_true, true_or, or_false, false_or, not_true_eq_false, not_false_eq_true, not_false_iff, false_implies, true_implies, eq_self, zo_iconst, zo_bipush, zo_sipush, zo_lconst, zo_ldc, zo_ldc_w, zo_ldc2_w, zo_iload_n, zo_iload, zo_lload_n, zo_lload, zo_aload_n, zo_aload, zo_istore_n, zo_istore, zo_lstore_n, zo_lstore, zo_astore_n, zo_astore, zo_iinc, zo_iadd, zo_isub, zo_imul, zo_iand, zo_ior, zo_ixor, zo_ishl, zo_ishr, zo_iushr, zo_idiv, zo_irem, zo_ladd, zo_lsub, zo_lmul, zo_ldiv, zo_lrem, zo_lcmp, zo_i2l, zo_i2b, zo_i2s, zo_dup, zo_dup2, zo_aconst_null, zo_if_icmp, zo_ifCond, zo_goto, zo_ifnull, zo_ifnonnull, zo_iaload, zo_baload, zo_laload, zo_aaload, zo_iastore, zo_bastore, zo_lastore, zo_arraylength, zo_getfield, zo_putfield, zo_tableswitch, zo_lookupswitch, zo_ireturn, zo_lreturn, zo_areturn, zo_return, zo_invokestatic, zo_invokevirtual, zo_new, zo_invokespecial, zo_newarray, zo_anewarray, zo_aastore, zy_0_1, zy_0_2, zy_0_3, zy_1_1, zy_1_2, zy_2_1, zy_2_2, zy_2_3, zy_3_0, zy_4_3, zy_5_1, zy_5_2, zy_6_5, zy_6_6, zy_6_7, zy_6_8, zy_6_9, zy_6_10, zy_7_2, zy_7_6, zy_7_9, zy_7_10, zy_7_11, zy_7_12, zy_7_14, zy_7_21, zy_7_30, zq_iconst, zq_bipush, zq_sipush, zq_lconst0, zq_lconst1, zq_ldc, zq_ldc_w, zq_ldc2_w, zq_iload0, zq_iload1, zq_iload2, zq_iload3, zq_iload, zq_lload0, zq_lload1, zq_lload2, zq_lload3, zq_lload, zq_aload0, zq_aload1, zq_aload2, zq_aload3, zq_aload, zq_istore0, zq_istore1, zq_istore2, zq_istore3, zq_istore, zq_lstore0, zq_lstore1, zq_lstore2, zq_lstore3, zq_lstore, zq_astore0, zq_astore0N, zq_astore1, zq_astore1N, zq_astore2, zq_astore2N, zq_astore3, zq_astore3N, zq_astore, zq_astoreN, zq_iinc, zq_iadd, zq_isub, zq_imul, zq_iand, zq_ior, zq_ixor, zq_ishl, zq_ishr, zq_iushr, zq_idiv, zq_irem, zq_ladd, zq_lsub, zq_lmul, zq_ldiv, zq_lrem, zq_lcmp, zq_i2l, zq_i2b, zq_i2s, zq_dup_i, zq_dup_r, zq_dup2, zq_null, zq_icmp_eq, zq_if_eq, zq_icmp_ne, zq_if_ne, zq_icmp_lt, zq_if_lt, zq_icmp_ge, zq_if_ge, zq_icmp_gt, zq_if_gt, zq_icmp_le, zq_if_le, zq_goto, zq_ifnull_r, zq_ifnull_n, zq_ifnonnull_r, zq_ifnonnull_n, zq_iaload, zq_baload, zq_laload, zq_aaload, zq_iastore, zq_bastore, zq_lastore, zq_alen, zq_getf, zq_put, zq_tsw, zq_lsw, zq_ireturn, zq_lreturn, zq_areturn, zq_areturnN, zq_return, zq_invokestatic, zq_invokevirtual, zq_new, zq_invokespecial, zq_newarray, zq_anewarray, zq_aastore, zi_m1, zi_0, zi_1, zi_2, zi_3, zi_4, zi_5, zi_6, zi_8, zi_16, zb_m10, zb_m4, zb_m3, zb_m2, zb_6, zb_7, zb_8, zb_9, zb_10, zb_16, zb_20, zb_23, zb_30, zb_32, zb_35, zb_46, zb_48, zb_56, zb_57, zb_59, zb_63, zb_70, zb_98, zb_99, zb_100, zb_111, zb_112, zs_192, zs_255, zs_256, zs_511, zs_512, zs_12345, zf_X8_7_0, zf_X8_13_0, zf_X8_112_0, zf_X8_16_0, zf_X8_19_0, zf_X8_22_0, zf_X8_115_0, zf_X8_25_0, zf_X8_28_0, zf_X8_78_0, zf_X8_82_0, zf_X8_85_0, zf_X8_144_0, zf_X8_31_0, zf_X8_137_0, zf_X8_34_0, zf_X8_38_0, zf_X8_41_0, zf_X8_44_0, zf_X8_47_0, zf_X8_50_0, zf_X8_234_0, zf_X8_53_0, zf_X8_56_0, zf_X8_59_0, zf_X8_62_0, zf_X8_66_0, zf_X8_69_0, zf_X8_72_0, zf_X8_75_0, zf_X8_244_0, zkc_X8_240, zkc_X8_253, zkl_X8_92, zkl_X8_262, zkl_X8_257, za_M_1, za_M_2, za_M_3, za_M_4, za_M_5, za_M_6, za_M_7, za_M_8, za_M_9, za_M_10, za_M_11, za_M_12, za_M_13, za_M_14, za_M_15, za_M_16, za_M_17, za_M_18, za_M_19, za_M_20, za_M_21, za_M_22, dX8_back_0, dX8_back_1, dX8_back_4, dX8_back_7, dX8_back_9, dX8_back_10, dX8_back_11, dX8_back_12, dX8_back_15, dX8_back_16, dX8_back_17, dX8_back_20, dX8_back_21, dX8_back_22, dX8_back_25, dX8_back_26, dX8_back_27, dX8_back_30, dX8_back_31, dX8_back_34, dX8_back_35, dX8_back_36, dX8_back_37, dX8_back_38, dX8_back_39, dX8_back_42, dX8_back_43, dX8_back_46]
    rw [f1, n_eqL (n := tnb T) (M := 0) 0 rfl (by omega) (by omega)]
    refine ⟨fun c => ?_, fun c => ?_⟩
    · have g1 : q_back T = -3 := by unfold q_back; rw [if_pos c]
      have g2 : u_back T = T := by unfold u_back wBr; rw [c, Nat.zero_sub, ← c]
      rw [g1, g2] at hk
      exact hk S hM
    · have g1 : q_back T = nI (tnb T - 1) := by unfold q_back; rw [if_neg c]
      rw [g1] at hk
      have e1 : nI (tnb T) - 1 = nI (tnb T - 1) := pk_sub (b := 1) (by omega)
      obtain ⟨m, hm⟩ : ∃ m, tnb T = m + 1 := ⟨tnb T - 1, by omega⟩
      have q := hbr.2 m (by omega)
      have g3 := (ab_bits_lt m (fun i hi => hbr.2 i (by omega))).1
      have hm1 : tnb T - 1 = m := by omega
      have eB : tB T = ab_bits (tod T) m ||| 2 ^ tod T m := by unfold tB; rw [hm, ab_bits_s]
      simp only [e1, f2, hm1, z_rd, Nat.reduceEqDiff, false_and, and_false, and_self, if_false, if_true, n_cl (show m < 2147483648 by omega), f3 m (by omega)]
      rw [hm1] at hk
      have eu : u_back T = wBr T (m, tod T) := by unfold u_back; rw [hm1]
      rw [eu] at hk
      refine ⟨n_in (by omega) (by omega), hk _ (MR_Wbr hM ⟨by dsimp only; omega, fun i hi => hbr.2 i (by dsimp only at hi; omega)⟩ ⟨?_, ?_, fun i hi => ?_⟩ (fun a ha => by dsimp only; rw [z_u_o (by omega), z_u_o (by omega)]) (fun j hj => by dsimp only; rw [z_u_nj (by omega), z_u_nj (by omega)]))⟩
      · simp only [z_rd, Nat.reduceEqDiff, true_and, and_true, and_self, false_and, and_false, if_true, if_false]
      · simp only [z_rd, Nat.reduceEqDiff, true_and, and_true, and_self, false_and, and_false, if_true, if_false]
        rw [eB]
        exact bt_un _ g3 _ (by omega) q.2
      · have hi : i < m := hi
        show _ = nI (tod T i)
        simp only [z_rd, Nat.reduceEqDiff, true_and, and_true, and_self, false_and, and_false, if_true, if_false]
        exact f3 i (by omega)
  · exact h.elim
theorem ok_X8_back : z_Ok z_shM yX8_back cX8_back 1 (some .int) ({ frames := 0, cells := 0, slots := 0, locals := 0 } : Room) 0 wp_X8_back := z_Ok_of pu_X8_back z_fX8_ok z_kX8_ok co_X8_back ⟨by decide, by decide⟩ (by decide +kernel)
theorem rec_X8_back : z_rec z_shM wp_X8_back 7 := by
  intro as S post h
  unfold wp_X8_back at h
  split at h
  · exact ⟨_, _, _, rfl, rfl⟩
  · exact h.elim
def wp_X8_meets : ZW := fun as S k => match as with
  | [.ref 0, .int v] => ∃ (T : ZT) (f : Nat), MR T S ∧ v = nI f ∧ f ≤ 5 ∧ ∀ S', MR (wFd T f) S' → k (some (.int (q_fnd f))) S'
  | _ => False
theorem wr_X8_meets {v : Int32} {S : ZS} {k : Option Value → ZS → Prop} : wp_X8_meets [.ref 0, .int v] S k = (∃ (T : ZT) (f : Nat), MR T S ∧ v = nI f ∧ f ≤ 5 ∧ ∀ S', MR (wFd T f) S' → k (some (.int (q_fnd f))) S') := rfl
def cs_X8_meets : List (Nat × ZC) := []
set_option maxRecDepth 20000 in
theorem co_X8_meets : z_csok RX8 ({ frames := 0, cells := 0, slots := 0, locals := 0 } : Room) z_shM cs_X8_meets := z_cs0
set_option maxHeartbeats 4000000 in
set_option maxRecDepth 20000 in
theorem pu_X8_meets : z_Pure cX8_meets 2 z_shM z_fX8 cs_X8_meets z_kcX8 z_klX8 (some .int) 0 wp_X8_meets := by
  intro as S post h
  unfold wp_X8_meets at h
  split at h
  · rename_i v
    refine ⟨Nat.le_of_ble_eq_true rfl, fun K hK => ?_⟩
    change K 0 0 [some (.ref 0), some (.int v)] [] S
    obtain ⟨T, f, hM, rfl, hf, hk⟩ := h
    refine hK (z_in []) 60 _ _ _ _ _ (Nat.zero_le _) ?_
    simp (config := { maxSteps := 10000000 }) only [z40, z20, z10, z01, zm0, z0m, ze_s, ze_ok, zt_s, zt_t, zt_f, zl_I, zl_J, zl_R, zl_N, zl_C, zl_K, zl_M, zl_ar0, zl_ar1, zl_ar2, zl_ar3, zl_as0, zl_as1, zl_as2, zl_al, zl_gf, zl_gr, zl_pf, zl_iv, zl_ivn, zlk_n, zlk_c, ztb_n, ztb_c, zin_n, zin_1, zin_c, Int.reduceLT, decide_true, decide_false, Bool.true_and, Bool.and_true, List.length_cons, List.length_nil, Int.reduceSub, Int.reduceEq, Int.natCast_zero, zk_s, z_in_n, z_in_c, z_gt_0, z_gt_s, zst_0, zst_1, zst_s, zsl_0, zsl_1, zsl_s, zc_n, zc_i, zc_l, zc_r, zc_u, zca_n, zca_i, zca_l, zca_r, zca_u, zrt_i, zrt_z, zrt_o, z_cal_0, z_cal_s, true_and, and_true, List.nil_append, List.cons_append, Option.toList_some, Option.toList_none, Nat.reduceAdd, Nat.reduceBEq, Nat.reduceLT, Nat.reduceLeDiff, Nat.reduceSub, Int.reduceAdd, Int.reduceLE, Int.reduceToNat, Int.cast_ofNat_Int, Bool.or_true, Bool.true_or, Bool.or_false, Bool.false_or, Nat.le_refl, Nat.zero_le, or_true, true_or, or_false, false_or, not_true_eq_false, not_false_eq_true, not_false_iff, false_implies, true_implies, eq_self, zo_iconst, zo_bipush, zo_sipush, zo_lconst, zo_ldc, zo_ldc_w, zo_ldc2_w, zo_iload_n, zo_iload, zo_lload_n, zo_lload, zo_aload_n, zo_aload, zo_istore_n, zo_istore, zo_lstore_n, zo_lstore, zo_astore_n, zo_astore, zo_iinc, zo_iadd, zo_isub, zo_imul, zo_iand, zo_ior, zo_ixor, zo_ishl, zo_ishr, zo_iushr, zo_idiv, zo_irem, zo_ladd, zo_lsub, zo_lmul, zo_ldiv, zo_lrem, zo_lcmp, zo_i2l, zo_i2b, zo_i2s, zo_dup, zo_dup2, zo_aconst_null, zo_if_icmp, zo_ifCond, zo_goto, zo_ifnull, zo_ifnonnull, zo_iaload, zo_baload, zo_laload, zo_aaload, zo_iastore, zo_bastore, zo_lastore, zo_arraylength, zo_getfield, zo_putfield, zo_tableswitch, zo_lookupswitch, zo_ireturn, zo_lreturn, zo_areturn, zo_return, zo_invokestatic, zo_invokevirtual, zo_new, zo_invokespecial, zo_newarray, zo_anewarray, zo_aastore, zy_0_1, zy_0_2, zy_0_3, zy_1_1, zy_1_2, zy_2_1, zy_2_2, zy_2_3, zy_3_0, zy_4_3, zy_5_1, zy_5_2, zy_6_5, zy_6_6, zy_6_7, zy_6_8, zy_6_9, zy_6_10, zy_7_2, zy_7_6, zy_7_9, zy_7_10, zy_7_11, zy_7_12, zy_7_14, zy_7_21, zy_7_30, zq_iconst, zq_bipush, zq_sipush, zq_lconst0, zq_lconst1, zq_ldc, zq_ldc_w, zq_ldc2_w, zq_iload0, zq_iload1, zq_iload2, zq_iload3, zq_iload, zq_lload0, zq_lload1, zq_lload2, zq_lload3, zq_lload, zq_aload0, zq_aload1, zq_aload2, zq_aload3, zq_aload, zq_istore0, zq_istore1, zq_istore2, zq_istore3, zq_istore, zq_lstore0, zq_lstore1, zq_lstore2, zq_lstore3, zq_lstore, zq_astore0, zq_astore0N, zq_astore1, zq_astore1N, zq_astore2, zq_astore2N, zq_astore3, zq_astore3N, zq_astore, zq_astoreN, zq_iinc, zq_iadd, zq_isub, zq_imul, zq_iand, zq_ior, zq_ixor, zq_ishl, zq_ishr, zq_iushr, zq_idiv, zq_irem, zq_ladd, zq_lsub, zq_lmul, zq_ldiv, zq_lrem, zq_lcmp, zq_i2l, zq_i2b, zq_i2s, zq_dup_i, zq_dup_r, zq_dup2, zq_null, zq_icmp_eq, zq_if_eq, zq_icmp_ne, zq_if_ne, zq_icmp_lt, zq_if_lt, zq_icmp_ge, zq_if_ge, zq_icmp_gt, zq_if_gt, zq_icmp_le, zq_if_le, zq_goto, zq_ifnull_r, zq_ifnull_n, zq_ifnonnull_r, zq_ifnonnull_n, zq_iaload, zq_baload, zq_laload, zq_aaload, zq_iastore, zq_bastore, zq_lastore, zq_alen, zq_getf, zq_put, zq_tsw, zq_lsw, zq_ireturn, zq_lreturn, zq_areturn, zq_areturnN, zq_return, zq_invokestatic, zq_invokevirtual, zq_new, zq_invokespecial, zq_newarray, zq_anewarray, zq_aastore, zi_m1, zi_0, zi_1, zi_2, zi_3, zi_4, zi_5, zi_6, zi_8, zi_16, zb_m10, zb_m4, zb_m3, zb_m2, zb_6, zb_7, zb_8, zb_9, zb_10, zb_16, zb_20, zb_23, zb_30, zb_32, zb_35, zb_46, zb_48, zb_56, zb_57, zb_59, zb_63, zb_70, zb_98, zb_99, zb_100, zb_111, zb_112, zs_192, zs_255, zs_256, zs_511, zs_512, zs_12345, zf_X8_7_0, zf_X8_13_0, zf_X8_112_0, zf_X8_16_0, zf_X8_19_0, zf_X8_22_0, zf_X8_115_0, zf_X8_25_0, zf_X8_28_0, zf_X8_78_0, zf_X8_82_0, zf_X8_85_0, zf_X8_144_0, zf_X8_31_0, zf_X8_137_0, zf_X8_34_0, zf_X8_38_0, zf_X8_41_0, zf_X8_44_0, zf_X8_47_0, zf_X8_50_0, zf_X8_234_0, zf_X8_53_0, zf_X8_56_0, zf_X8_59_0, zf_X8_62_0, zf_X8_66_0, zf_X8_69_0, zf_X8_72_0, zf_X8_75_0, zf_X8_244_0, zkc_X8_240, zkc_X8_253, zkl_X8_92, zkl_X8_262, zkl_X8_257, za_M_1, za_M_2, za_M_3, za_M_4, za_M_5, za_M_6, za_M_7, za_M_8, za_M_9, za_M_10, za_M_11, za_M_12, za_M_13, za_M_14, za_M_15, za_M_16, za_M_17, za_M_18, za_M_19, za_M_20, za_M_21, za_M_22, dX8_meets_0, dX8_meets_1, dX8_meets_2, dX8_meets_5, dX8_meets_7, dX8_meets_8, dX8_meets_9]
    refine hk _ (MR_Wfd hM hf ?_ (fun a ha => by dsimp only; rw [z_u_o ha]) (fun j hj => by dsimp only; rw [z_u_nj hj]))
    unfold m_fd
    simp only [z_rd, Nat.reduceEqDiff, true_and, and_true, and_self, false_and, and_false, if_true, if_false]
  · exact h.elim
theorem ok_X8_meets : z_Ok z_shM yX8_meets cX8_meets 2 (some .int) ({ frames := 0, cells := 0, slots := 0, locals := 0 } : Room) 0 wp_X8_meets := z_Ok_of pu_X8_meets z_fX8_ok z_kX8_ok co_X8_meets ⟨by decide, by decide⟩ (by decide +kernel)
theorem rec_X8_meets : z_rec z_shM wp_X8_meets 7 := by
  intro as S post h
  unfold wp_X8_meets at h
  split at h
  · exact ⟨_, _, _, rfl, rfl⟩
  · exact h.elim
def wp_X8_page : ZW := fun as S k => match as with
  | [.ref 0, .int b] => ∃ T : ZT, MR T S ∧ ∀ S', MR (u_page T b) S' → k (some (.int (q_page T b))) S'
  | _ => False
theorem wr_X8_page {b : Int32} {S : ZS} {k : Option Value → ZS → Prop} : wp_X8_page [.ref 0, .int b] S k = (∃ T : ZT, MR T S ∧ ∀ S', MR (u_page T b) S' → k (some (.int (q_page T b))) S') := rfl
def cs_X8_page : List (Nat × ZC) := [(94, (3, 0, true, wp_X8_in))]
theorem cr_X8_page_94 : cs_X8_page.lookup 94 = some (3, 0, true, wp_X8_in) := rfl
set_option maxRecDepth 20000 in
theorem co_X8_page : z_csok RX8 ({ frames := 1, cells := 0, slots := 0, locals := 22 } : Room) z_shM cs_X8_page := z_cs2 (z_csS ok_X8_in (z_g 789 (by decide +kernel) rfl) (z_g 790 (by decide +kernel) rfl) (z_g 51 (by decide +kernel) rfl) (z_g 791 (by decide +kernel) rfl) rfl rfl (by decide +kernel) ⟨by decide, by decide⟩)
  (z_cs0)
set_option maxHeartbeats 4000000 in
set_option maxRecDepth 20000 in
theorem pu_X8_page : z_Pure cX8_page 2 z_shM z_fX8 cs_X8_page z_kcX8 z_klX8 (some .int) 0 wp_X8_page := by
  intro as S post h
  unfold wp_X8_page at h
  split at h
  · rename_i b
    refine ⟨Nat.le_of_ble_eq_true rfl, fun K hK => ?_⟩
    change K 0 0 [some (.ref 0), some (.int b)] [] S
    obtain ⟨T, hM, hk⟩ := h
    obtain ⟨f1, f2⟩ := id hM.2.2.2.2.1
    have hp := hM.1.2.2.2.2.1
    refine hK (z_in []) 60 _ _ _ _ _ (Nat.zero_le _) ?_
    simp (config := { maxSteps := 10000000 }) only [z40, z20, z10, z01, zm0, z0m, ze_s, ze_ok, zt_s, zt_t, zt_f, zl_I, zl_J, zl_R, zl_N, zl_C, zl_K, zl_M, zl_ar0, zl_ar1, zl_ar2, zl_ar3, zl_as0, zl_as1, zl_as2, zl_al, zl_gf, zl_gr, zl_pf, zl_iv, zl_ivn, zlk_n, zlk_c, ztb_n, ztb_c, zin_n, zin_1, zin_c, Int.reduceLT, decide_true, decide_false, Bool.true_and, Bool.and_true, List.length_cons, List.length_nil, Int.reduceSub, Int.reduceEq, Int.natCast_zero, zk_s, z_in_n, z_in_c, z_gt_0, z_gt_s, zst_0, zst_1, zst_s, zsl_0, zsl_1, zsl_s, zc_n, zc_i, zc_l, zc_r, zc_u, zca_n, zca_i, zca_l, zca_r, zca_u, zrt_i, zrt_z, zrt_o, z_cal_0, z_cal_s, true_and, and_true, List.nil_append, List.cons_append, Option.toList_some, Option.toList_none, Nat.reduceAdd, Nat.reduceBEq, Nat.reduceLT, Nat.reduceLeDiff, Nat.reduceSub, Int.reduceAdd, Int.reduceLE, Int.reduceToNat, Int.cast_ofNat_Int, Bool.or_true, Bool.true_or, Bool.or_false, Bool.false_or, Nat.le_refl, Nat.zero_le, or_true, true_or, or_false, false_or, not_true_eq_false, not_false_eq_true, not_false_iff, false_implies, true_implies, eq_self, zo_iconst, zo_bipush, zo_sipush, zo_lconst, zo_ldc, zo_ldc_w, zo_ldc2_w, zo_iload_n, zo_iload, zo_lload_n, zo_lload, zo_aload_n, zo_aload, zo_istore_n, zo_istore, zo_lstore_n, zo_lstore, zo_astore_n, zo_astore, zo_iinc, zo_iadd, zo_isub, zo_imul, zo_iand, zo_ior, zo_ixor, zo_ishl, zo_ishr, zo_iushr, zo_idiv, zo_irem, zo_ladd, zo_lsub, zo_lmul, zo_ldiv, zo_lrem, zo_lcmp, zo_i2l, zo_i2b, zo_i2s, zo_dup, zo_dup2, zo_aconst_null, zo_if_icmp, zo_ifCond, zo_goto, zo_ifnull, zo_ifnonnull, zo_iaload, zo_baload, zo_laload, zo_aaload, zo_iastore, zo_bastore, zo_lastore, zo_arraylength, zo_getfield, zo_putfield, zo_tableswitch, zo_lookupswitch, zo_ireturn, zo_lreturn, zo_areturn, zo_return, zo_invokestatic, zo_invokevirtual, zo_new, zo_invokespecial, zo_newarray, zo_anewarray, zo_aastore, zy_0_1, zy_0_2, zy_0_3, zy_1_1, zy_1_2, zy_2_1, zy_2_2, zy_2_3, zy_3_0, zy_4_3, zy_5_1, zy_5_2, zy_6_5, zy_6_6, zy_6_7, zy_6_8, zy_6_9, zy_6_10, zy_7_2, zy_7_6, zy_7_9, zy_7_10, zy_7_11, zy_7_12, zy_7_14, zy_7_21, zy_7_30, zq_iconst, zq_bipush, zq_sipush, zq_lconst0, zq_lconst1, zq_ldc, zq_ldc_w, zq_ldc2_w, zq_iload0, zq_iload1, zq_iload2, zq_iload3, zq_iload, zq_lload0, zq_lload1, zq_lload2, zq_lload3, zq_lload, zq_aload0, zq_aload1, zq_aload2, zq_aload3, zq_aload, zq_istore0, zq_istore1, zq_istore2, zq_istore3, zq_istore, zq_lstore0, zq_lstore1, zq_lstore2, zq_lstore3, zq_lstore, zq_astore0, zq_astore0N, zq_astore1, zq_astore1N, zq_astore2, zq_astore2N, zq_astore3, zq_astore3N, zq_astore, zq_astoreN, zq_iinc, zq_iadd, zq_isub, zq_imul, zq_iand, zq_ior, zq_ixor, zq_ishl, zq_ishr, zq_iushr, zq_idiv, zq_irem, zq_ladd, zq_lsub, zq_lmul, zq_ldiv, zq_lrem, zq_lcmp, zq_i2l, zq_i2b, zq_i2s, zq_dup_i, zq_dup_r, zq_dup2, zq_null, zq_icmp_eq, zq_if_eq, zq_icmp_ne, zq_if_ne, zq_icmp_lt, zq_if_lt, zq_icmp_ge, zq_if_ge, zq_icmp_gt, zq_if_gt, zq_icmp_le, zq_if_le, zq_goto, zq_ifnull_r, zq_ifnull_n, zq_ifnonnull_r, zq_ifnonnull_n, zq_iaload, zq_baload, zq_laload, zq_aaload, zq_iastore, zq_bastore, zq_lastore, zq_alen, zq_getf, zq_put, zq_tsw, zq_lsw, zq_ireturn, zq_lreturn, zq_areturn, zq_areturnN, zq_return, zq_invokestatic, zq_invokevirtual, zq_new, zq_invokespecial, zq_newarray, zq_anewarray, zq_aastore, zi_m1, zi_0, zi_1, zi_2, zi_3, zi_4, zi_5, zi_6, zi_8, zi_16, zb_m10, zb_m4, zb_m3, zb_m2, zb_6, zb_7, zb_8, zb_9, zb_10, zb_16, zb_20, zb_23, zb_30, zb_32, zb_35, zb_46, zb_48, zb_56, zb_57, zb_59, zb_63, zb_70, zb_98, zb_99, zb_100, zb_111, zb_112, zs_192, zs_255, zs_256, zs_511, zs_512, zs_12345, zf_X8_7_0, zf_X8_13_0, zf_X8_112_0, zf_X8_16_0, zf_X8_19_0, zf_X8_22_0, zf_X8_115_0, zf_X8_25_0, zf_X8_28_0, zf_X8_78_0, zf_X8_82_0, zf_X8_85_0, zf_X8_144_0, zf_X8_31_0, zf_X8_137_0, zf_X8_34_0, zf_X8_38_0, zf_X8_41_0, zf_X8_44_0, zf_X8_47_0, zf_X8_50_0, zf_X8_234_0, zf_X8_53_0, zf_X8_56_0, zf_X8_59_0, zf_X8_62_0, zf_X8_66_0, zf_X8_69_0, zf_X8_72_0, zf_X8_75_0, zf_X8_244_0, zkc_X8_240, zkc_X8_253, zkl_X8_92, zkl_X8_262, zkl_X8_257, za_M_1, za_M_2, za_M_3, za_M_4, za_M_5, za_M_6, za_M_7, za_M_8, za_M_9, za_M_10, za_M_11, za_M_12, za_M_13, za_M_14, za_M_15, za_M_16, za_M_17, za_M_18, za_M_19, za_M_20, za_M_21, za_M_22, dX8_page_0, dX8_page_1, dX8_page_2, dX8_page_3, dX8_page_6, dX8_page_9, dX8_page_11, dX8_page_12, dX8_page_13, dX8_page_16, dX8_page_17, dX8_page_18, dX8_page_19, dX8_page_22, dX8_page_23, dX8_page_24, dX8_page_25, dX8_page_27, dX8_page_30, dX8_page_32, dX8_page_33, dX8_page_34, dX8_page_37, dX8_page_38, dX8_page_39, dX8_page_40, dX8_page_41, dX8_page_42, dX8_page_43, dX8_page_44, dX8_page_45, dX8_page_46, dX8_page_49, dX8_page_50, dX8_page_51, dX8_page_52, dX8_page_55, dX8_page_56, dX8_page_57, dX8_page_58, cr_X8_page_94, wr_X8_in]
    rw [w_in (m := 1) (by decide)]
    refine ⟨fun c => ?_, fun c => ?_⟩
    · have gF : tpb T + tpo T = 9 → post (some (.int (-4))) S := by
        intro e
        have g1 : q_page T b = -4 := by unfold q_page; rw [if_pos c, if_pos e]
        have g2 : u_page T b = T := by unfold u_page; rw [if_neg (fun q => q.2 e)]
        rw [g1, g2] at hk
        exact hk S hM
      have gG : ¬ tpb T + tpo T = 9 → q_page T b = nI (tpb T + tpo T + 1) := fun e => by unfold q_page; rw [if_pos c, if_neg e]
      rcases i_in2 c with rfl | rfl
      · simp only [Int32.reduceLE, Int32.reduceLT, Int32.reduceAdd, Int32.reduceSub, and_self, and_true, true_and, false_and, and_false, true_implies, false_implies, not_true_eq_false, not_false_eq_true, z10, z01, z20, me02, me12, me21, mt0, mt1, mt2, mi02, mi12, z_rd, Nat.reduceEqDiff, if_true, if_false]
        rw [f1, f2, nI_add, n_eqL (n := tpb T + tpo T) (M := 9) 9 rfl (by omega) (by omega)]
        refine ⟨gF, fun e => ?_⟩
        have g2 : u_page T 0 = wPg T (tpb T, tpo T + 1) := by unfold u_page; rw [if_pos ⟨c, e⟩, if_neg (by decide)]
        rw [gG e, g2] at hk
        rw [nI_1, nI_add, show tpb T + (tpo T + 1) = tpb T + tpo T + 1 by omega]
        refine hk _ (MR_Wpg hM (by dsimp only; omega) ⟨?_, ?_⟩ (fun a ha => by dsimp only; rw [z_u_o ha]))
        · simp only [z_rd, Nat.reduceEqDiff, true_and, and_true, and_self, false_and, and_false, if_true, if_false]
          exact f1
        · simp only [z_rd, Nat.reduceEqDiff, true_and, and_true, and_self, false_and, and_false, if_true, if_false]
      · simp only [Int32.reduceLE, Int32.reduceLT, Int32.reduceAdd, Int32.reduceSub, and_self, and_true, true_and, false_and, and_false, true_implies, false_implies, not_true_eq_false, not_false_eq_true, z10, z01, z20, me02, me12, me21, mt0, mt1, mt2, mi02, mi12, z_rd, Nat.reduceEqDiff, if_true, if_false]
        rw [f1, f2, nI_add, n_eqL (n := tpb T + tpo T) (M := 9) 9 rfl (by omega) (by omega)]
        refine ⟨gF, fun e => ?_⟩
        have g2 : u_page T 1 = wPg T (tpb T + 1, tpo T) := by unfold u_page; rw [if_pos ⟨c, e⟩, if_pos rfl]
        rw [gG e, g2] at hk
        rw [nI_1, nI_add, show tpb T + 1 + tpo T = tpb T + tpo T + 1 by omega]
        refine hk _ (MR_Wpg hM (by dsimp only; omega) ⟨?_, ?_⟩ (fun a ha => by dsimp only; rw [z_u_o ha]))
        · simp only [z_rd, Nat.reduceEqDiff, true_and, and_true, and_self, false_and, and_false, if_true, if_false]
        · simp only [z_rd, Nat.reduceEqDiff, true_and, and_true, and_self, false_and, and_false, if_true, if_false]
          exact f2
    · have g1 : q_page T b = -2 := by unfold q_page; rw [if_neg c]
      have g2 : u_page T b = T := by unfold u_page; rw [if_neg (fun q => c q.1)]
      rw [g1, g2] at hk
      exact hk S hM
  · exact h.elim
theorem ok_X8_page : z_Ok z_shM yX8_page cX8_page 2 (some .int) ({ frames := 1, cells := 0, slots := 0, locals := 22 } : Room) 0 wp_X8_page := z_Ok_of pu_X8_page z_fX8_ok z_kX8_ok co_X8_page ⟨by decide, by decide⟩ (by decide +kernel)
theorem rec_X8_page : z_rec z_shM wp_X8_page 7 := by
  intro as S post h
  unfold wp_X8_page at h
  split at h
  · exact ⟨_, _, _, rfl, rfl⟩
  · exact h.elim
def wp_X8_forget : ZW := fun as S k => match as with
  | [.ref 0, .int w] => ∃ T : ZT, MR T S ∧ ∀ S', MR (u_forget T w) S' → k (some (.int (q_forget T w))) S'
  | _ => False
theorem wr_X8_forget {w : Int32} {S : ZS} {k : Option Value → ZS → Prop} : wp_X8_forget [.ref 0, .int w] S k = (∃ T : ZT, MR T S ∧ ∀ S', MR (u_forget T w) S' → k (some (.int (q_forget T w))) S') := rfl
def cs_X8_forget : List (Nat × ZC) := [(94, (3, 0, true, wp_X8_in))]
theorem cr_X8_forget_94 : cs_X8_forget.lookup 94 = some (3, 0, true, wp_X8_in) := rfl
set_option maxRecDepth 20000 in
theorem co_X8_forget : z_csok RX8 ({ frames := 1, cells := 0, slots := 0, locals := 22 } : Room) z_shM cs_X8_forget := z_cs2 (z_csS ok_X8_in (z_g 789 (by decide +kernel) rfl) (z_g 790 (by decide +kernel) rfl) (z_g 51 (by decide +kernel) rfl) (z_g 791 (by decide +kernel) rfl) rfl rfl (by decide +kernel) ⟨by decide, by decide⟩)
  (z_cs0)
set_option maxHeartbeats 4000000 in
set_option maxRecDepth 20000 in
theorem pu_X8_forget : z_Pure cX8_forget 3 z_shM z_fX8 cs_X8_forget z_kcX8 z_klX8 (some .int) 0 wp_X8_forget := by
  intro as S post h
  unfold wp_X8_forget at h
  split at h
  · rename_i w
    refine ⟨Nat.le_of_ble_eq_true rfl, fun K hK => ?_⟩
    change K 0 0 [some (.ref 0), some (.int w), none] [] S
    obtain ⟨T, hM, hk⟩ := h
    obtain ⟨f1, f2⟩ := id hM.2.2.2.2.1
    obtain ⟨s1, s2⟩ := id hM.2.2.2.2.2.1
    by_cases w0 : w = 0
    · subst w0
      refine hK (z_in []) 90 _ _ _ _ _ (Nat.zero_le _) ?_
      simp (config := { maxSteps := 10000000 }) only [z40, z20, z10, z01, zm0, z0m, ze_s, ze_ok, zt_s, zt_t, zt_f, zl_I, zl_J, zl_R, zl_N, zl_C, zl_K, zl_M, zl_ar0, zl_ar1, zl_ar2, zl_ar3, zl_as0, zl_as1, zl_as2, zl_al, zl_gf, zl_gr, zl_pf, zl_iv, zl_ivn, zlk_n, zlk_c, ztb_n, ztb_c, zin_n, zin_1, zin_c, Int.reduceLT, decide_true, decide_false, Bool.true_and, Bool.and_true, List.length_cons, List.length_nil, Int.reduceSub, Int.reduceEq, Int.natCast_zero, zk_s, z_in_n, z_in_c, z_gt_0, z_gt_s, zst_0, zst_1, zst_s, zsl_0, zsl_1, zsl_s, zc_n, zc_i, zc_l, zc_r, zc_u, zca_n, zca_i, zca_l, zca_r, zca_u, zrt_i, zrt_z, zrt_o, z_cal_0, z_cal_s, true_and, and_true, List.nil_append, List.cons_append, Option.toList_some, Option.toList_none, Nat.reduceAdd, Nat.reduceBEq, Nat.reduceLT, Nat.reduceLeDiff, Nat.reduceSub, Int.reduceAdd, Int.reduceLE, Int.reduceToNat, Int.cast_ofNat_Int, Bool.or_true, Bool.true_or, Bool.or_false, Bool.false_or, Nat.le_refl, Nat.zero_le, or_true, true_or, or_false, false_or, not_true_eq_false, not_false_eq_true, not_false_iff, false_implies, true_implies, eq_self, zo_iconst, zo_bipush, zo_sipush, zo_lconst, zo_ldc, zo_ldc_w, zo_ldc2_w, zo_iload_n, zo_iload, zo_lload_n, zo_lload, zo_aload_n, zo_aload, zo_istore_n, zo_istore, zo_lstore_n, zo_lstore, zo_astore_n, zo_astore, zo_iinc, zo_iadd, zo_isub, zo_imul, zo_iand, zo_ior, zo_ixor, zo_ishl, zo_ishr, zo_iushr, zo_idiv, zo_irem, zo_ladd, zo_lsub, zo_lmul, zo_ldiv, zo_lrem, zo_lcmp, zo_i2l, zo_i2b, zo_i2s, zo_dup, zo_dup2, zo_aconst_null, zo_if_icmp, zo_ifCond, zo_goto, zo_ifnull, zo_ifnonnull, zo_iaload, zo_baload, zo_laload, zo_aaload, zo_iastore, zo_bastore, zo_lastore, zo_arraylength, zo_getfield, zo_putfield, zo_tableswitch, zo_lookupswitch, zo_ireturn, zo_lreturn, zo_areturn, zo_return, zo_invokestatic, zo_invokevirtual, zo_new, zo_invokespecial, zo_newarray, zo_anewarray, zo_aastore, zy_0_1, zy_0_2, zy_0_3, zy_1_1, zy_1_2, zy_2_1, zy_2_2, zy_2_3, zy_3_0, zy_4_3, zy_5_1, zy_5_2, zy_6_5, zy_6_6, zy_6_7, zy_6_8, zy_6_9, zy_6_10, zy_7_2, zy_7_6, zy_7_9, zy_7_10, zy_7_11, zy_7_12, zy_7_14, zy_7_21, zy_7_30, zq_iconst, zq_bipush, zq_sipush, zq_lconst0, zq_lconst1, zq_ldc, zq_ldc_w, zq_ldc2_w, zq_iload0, zq_iload1, zq_iload2, zq_iload3, zq_iload, zq_lload0, zq_lload1, zq_lload2, zq_lload3, zq_lload, zq_aload0, zq_aload1, zq_aload2, zq_aload3, zq_aload, zq_istore0, zq_istore1, zq_istore2, zq_istore3, zq_istore, zq_lstore0, zq_lstore1, zq_lstore2, zq_lstore3, zq_lstore, zq_astore0, zq_astore0N, zq_astore1, zq_astore1N, zq_astore2, zq_astore2N, zq_astore3, zq_astore3N, zq_astore, zq_astoreN, zq_iinc, zq_iadd, zq_isub, zq_imul, zq_iand, zq_ior, zq_ixor, zq_ishl, zq_ishr, zq_iushr, zq_idiv, zq_irem, zq_ladd, zq_lsub, zq_lmul, zq_ldiv, zq_lrem, zq_lcmp, zq_i2l, zq_i2b, zq_i2s, zq_dup_i, zq_dup_r, zq_dup2, zq_null, zq_icmp_eq, zq_if_eq, zq_icmp_ne, zq_if_ne, zq_icmp_lt, zq_if_lt, zq_icmp_ge, zq_if_ge, zq_icmp_gt, zq_if_gt, zq_icmp_le, zq_if_le, zq_goto, zq_ifnull_r, zq_ifnull_n, zq_ifnonnull_r, zq_ifnonnull_n, zq_iaload, zq_baload, zq_laload, zq_aaload, zq_iastore, zq_bastore, zq_lastore, zq_alen, zq_getf, zq_put, zq_tsw, zq_lsw, zq_ireturn, zq_lreturn, zq_areturn, zq_areturnN, zq_return, zq_invokestatic, zq_invokevirtual, zq_new, zq_invokespecial, zq_newarray, zq_anewarray, zq_aastore, zi_m1, zi_0, zi_1, zi_2, zi_3, zi_4, zi_5, zi_6, zi_8, zi_16, zb_m10, zb_m4, zb_m3, zb_m2, zb_6, zb_7, zb_8, zb_9, zb_10, zb_16, zb_20, zb_23, zb_30, zb_32, zb_35, zb_46, zb_48, zb_56, zb_57, zb_59, zb_63, zb_70, zb_98, zb_99, zb_100, zb_111, zb_112, zs_192, zs_255, zs_256, zs_511, zs_512, zs_12345, zf_X8_7_0, zf_X8_13_0, zf_X8_112_0, zf_X8_16_0, zf_X8_19_0, zf_X8_22_0, zf_X8_115_0, zf_X8_25_0, zf_X8_28_0, zf_X8_78_0, zf_X8_82_0, zf_X8_85_0, zf_X8_144_0, zf_X8_31_0, zf_X8_137_0, zf_X8_34_0, zf_X8_38_0, zf_X8_41_0, zf_X8_44_0, zf_X8_47_0, zf_X8_50_0, zf_X8_234_0, zf_X8_53_0, zf_X8_56_0, zf_X8_59_0, zf_X8_62_0, zf_X8_66_0, zf_X8_69_0, zf_X8_72_0, zf_X8_75_0, zf_X8_244_0, zkc_X8_240, zkc_X8_253, zkl_X8_92, zkl_X8_262, zkl_X8_257, za_M_1, za_M_2, za_M_3, za_M_4, za_M_5, za_M_6, za_M_7, za_M_8, za_M_9, za_M_10, za_M_11, za_M_12, za_M_13, za_M_14, za_M_15, za_M_16, za_M_17, za_M_18, za_M_19, za_M_20, za_M_21, za_M_22, dX8_forget_0, dX8_forget_1, dX8_forget_2, dX8_forget_3, dX8_forget_6, dX8_forget_9, dX8_forget_11, dX8_forget_12, dX8_forget_13, dX8_forget_16, dX8_forget_17, dX8_forget_20, dX8_forget_21, dX8_forget_22, dX8_forget_23, dX8_forget_26, dX8_forget_27, dX8_forget_28, dX8_forget_29, dX8_forget_32, dX8_forget_33, dX8_forget_36, dX8_forget_37, dX8_forget_38, dX8_forget_41, dX8_forget_42, dX8_forget_43, dX8_forget_46, dX8_forget_47, dX8_forget_50, dX8_forget_51, dX8_forget_54, dX8_forget_55, dX8_forget_56, dX8_forget_57, dX8_forget_58, dX8_forget_61, dX8_forget_62, dX8_forget_63, dX8_forget_66, dX8_forget_67, dX8_forget_70, dX8_forget_71, dX8_forget_74, dX8_forget_75, dX8_forget_76, dX8_forget_77, dX8_forget_78, dX8_forget_79, dX8_forget_80, dX8_forget_83, dX8_forget_84, dX8_forget_87, dX8_forget_88, dX8_forget_91, dX8_forget_94, dX8_forget_95, cr_X8_forget_94, wr_X8_in]
      simp only [Int32.reduceLE, Int32.reduceLT, Int32.reduceAdd, Int32.reduceSub, and_self, and_true, true_and, false_and, and_false, true_implies, false_implies, not_true_eq_false, not_false_eq_true, z10, z01, z20, me02, me12, me21, mt0, mt1, mt2, mi02, mi12, z_rd, Nat.reduceEqDiff, if_true, if_false]
      rw [f1, f2, nI_add]
      have hM1 : MR (wPg T (0, 0)) (z_u (z_u S.1 14 0 0) 14 1 0, S.2) := by
        refine MR_Wpg hM (Nat.zero_le _) ⟨?_, ?_⟩ (fun a ha => by dsimp only; rw [z_u_o ha, z_u_o ha])
        · simp only [z_rd, Nat.reduceEqDiff, true_and, and_true, and_self, false_and, and_false, if_true, if_false]
          rfl
        · simp only [z_rd, Nat.reduceEqDiff, true_and, and_true, and_self, false_and, and_false, if_true, if_false]
          rfl
      refine hk _ (MR_cg hM1 (fun a ha => by dsimp only; rw [z_u_o (by omega)]) (fun j hj => ?_))
      simp only [z_rd, Nat.reduceEqDiff, true_and, and_true, and_self, false_and, and_false, if_true, if_false]
      by_cases e : j = 21
      · subst e; rw [if_pos rfl]
      · rw [if_neg e]
    · by_cases w1 : w = 1
      · subst w1
        refine hK (z_in []) 90 _ _ _ _ _ (Nat.zero_le _) ?_
        simp (config := { maxSteps := 10000000 }) only [z40, z20, z10, z01, zm0, z0m, ze_s, ze_ok, zt_s, zt_t, zt_f, zl_I, zl_J, zl_R, zl_N, zl_C, zl_K, zl_M, zl_ar0, zl_ar1, zl_ar2, zl_ar3, zl_as0, zl_as1, zl_as2, zl_al, zl_gf, zl_gr, zl_pf, zl_iv, zl_ivn, zlk_n, zlk_c, ztb_n, ztb_c, zin_n, zin_1, zin_c, Int.reduceLT, decide_true, decide_false, Bool.true_and, Bool.and_true, List.length_cons, List.length_nil, Int.reduceSub, Int.reduceEq, Int.natCast_zero, zk_s, z_in_n, z_in_c, z_gt_0, z_gt_s, zst_0, zst_1, zst_s, zsl_0, zsl_1, zsl_s, zc_n, zc_i, zc_l, zc_r, zc_u, zca_n, zca_i, zca_l, zca_r, zca_u, zrt_i, zrt_z, zrt_o, z_cal_0, z_cal_s, true_and, and_true, List.nil_append, List.cons_append, Option.toList_some, Option.toList_none, Nat.reduceAdd, Nat.reduceBEq, Nat.reduceLT, Nat.reduceLeDiff, Nat.reduceSub, Int.reduceAdd, Int.reduceLE, Int.reduceToNat, Int.cast_ofNat_Int, Bool.or_true, Bool.true_or, Bool.or_false, Bool.false_or, Nat.le_refl, Nat.zero_le, or_true, true_or, or_false, false_or, not_true_eq_false, not_false_eq_true, not_false_iff, false_implies, true_implies, eq_self, zo_iconst, zo_bipush, zo_sipush, zo_lconst, zo_ldc, zo_ldc_w, zo_ldc2_w, zo_iload_n, zo_iload, zo_lload_n, zo_lload, zo_aload_n, zo_aload, zo_istore_n, zo_istore, zo_lstore_n, zo_lstore, zo_astore_n, zo_astore, zo_iinc, zo_iadd, zo_isub, zo_imul, zo_iand, zo_ior, zo_ixor, zo_ishl, zo_ishr, zo_iushr, zo_idiv, zo_irem, zo_ladd, zo_lsub, zo_lmul, zo_ldiv, zo_lrem, zo_lcmp, zo_i2l, zo_i2b, zo_i2s, zo_dup, zo_dup2, zo_aconst_null, zo_if_icmp, zo_ifCond, zo_goto, zo_ifnull, zo_ifnonnull, zo_iaload, zo_baload, zo_laload, zo_aaload, zo_iastore, zo_bastore, zo_lastore, zo_arraylength, zo_getfield, zo_putfield, zo_tableswitch, zo_lookupswitch, zo_ireturn, zo_lreturn, zo_areturn, zo_return, zo_invokestatic, zo_invokevirtual, zo_new, zo_invokespecial, zo_newarray, zo_anewarray, zo_aastore, zy_0_1, zy_0_2, zy_0_3, zy_1_1, zy_1_2, zy_2_1, zy_2_2, zy_2_3, zy_3_0, zy_4_3, zy_5_1, zy_5_2, zy_6_5, zy_6_6, zy_6_7, zy_6_8, zy_6_9, zy_6_10, zy_7_2, zy_7_6, zy_7_9, zy_7_10, zy_7_11, zy_7_12, zy_7_14, zy_7_21, zy_7_30, zq_iconst, zq_bipush, zq_sipush, zq_lconst0, zq_lconst1, zq_ldc, zq_ldc_w, zq_ldc2_w, zq_iload0, zq_iload1, zq_iload2, zq_iload3, zq_iload, zq_lload0, zq_lload1, zq_lload2, zq_lload3, zq_lload, zq_aload0, zq_aload1, zq_aload2, zq_aload3, zq_aload, zq_istore0, zq_istore1, zq_istore2, zq_istore3, zq_istore, zq_lstore0, zq_lstore1, zq_lstore2, zq_lstore3, zq_lstore, zq_astore0, zq_astore0N, zq_astore1, zq_astore1N, zq_astore2, zq_astore2N, zq_astore3, zq_astore3N, zq_astore, zq_astoreN, zq_iinc, zq_iadd, zq_isub, zq_imul, zq_iand, zq_ior, zq_ixor, zq_ishl, zq_ishr, zq_iushr, zq_idiv, zq_irem, zq_ladd, zq_lsub, zq_lmul, zq_ldiv, zq_lrem, zq_lcmp, zq_i2l, zq_i2b, zq_i2s, zq_dup_i, zq_dup_r, zq_dup2, zq_null, zq_icmp_eq, zq_if_eq, zq_icmp_ne, zq_if_ne, zq_icmp_lt, zq_if_lt, zq_icmp_ge, zq_if_ge, zq_icmp_gt, zq_if_gt, zq_icmp_le, zq_if_le, zq_goto, zq_ifnull_r, zq_ifnull_n, zq_ifnonnull_r, zq_ifnonnull_n, zq_iaload, zq_baload, zq_laload, zq_aaload, zq_iastore, zq_bastore, zq_lastore, zq_alen, zq_getf, zq_put, zq_tsw, zq_lsw, zq_ireturn, zq_lreturn, zq_areturn, zq_areturnN, zq_return, zq_invokestatic, zq_invokevirtual, zq_new, zq_invokespecial, zq_newarray, zq_anewarray, zq_aastore, zi_m1, zi_0, zi_1, zi_2, zi_3, zi_4, zi_5, zi_6, zi_8, zi_16, zb_m10, zb_m4, zb_m3, zb_m2, zb_6, zb_7, zb_8, zb_9, zb_10, zb_16, zb_20, zb_23, zb_30, zb_32, zb_35, zb_46, zb_48, zb_56, zb_57, zb_59, zb_63, zb_70, zb_98, zb_99, zb_100, zb_111, zb_112, zs_192, zs_255, zs_256, zs_511, zs_512, zs_12345, zf_X8_7_0, zf_X8_13_0, zf_X8_112_0, zf_X8_16_0, zf_X8_19_0, zf_X8_22_0, zf_X8_115_0, zf_X8_25_0, zf_X8_28_0, zf_X8_78_0, zf_X8_82_0, zf_X8_85_0, zf_X8_144_0, zf_X8_31_0, zf_X8_137_0, zf_X8_34_0, zf_X8_38_0, zf_X8_41_0, zf_X8_44_0, zf_X8_47_0, zf_X8_50_0, zf_X8_234_0, zf_X8_53_0, zf_X8_56_0, zf_X8_59_0, zf_X8_62_0, zf_X8_66_0, zf_X8_69_0, zf_X8_72_0, zf_X8_75_0, zf_X8_244_0, zkc_X8_240, zkc_X8_253, zkl_X8_92, zkl_X8_262, zkl_X8_257, za_M_1, za_M_2, za_M_3, za_M_4, za_M_5, za_M_6, za_M_7, za_M_8, za_M_9, za_M_10, za_M_11, za_M_12, za_M_13, za_M_14, za_M_15, za_M_16, za_M_17, za_M_18, za_M_19, za_M_20, za_M_21, za_M_22, dX8_forget_0, dX8_forget_1, dX8_forget_2, dX8_forget_3, dX8_forget_6, dX8_forget_9, dX8_forget_11, dX8_forget_12, dX8_forget_13, dX8_forget_16, dX8_forget_17, dX8_forget_20, dX8_forget_21, dX8_forget_22, dX8_forget_23, dX8_forget_26, dX8_forget_27, dX8_forget_28, dX8_forget_29, dX8_forget_32, dX8_forget_33, dX8_forget_36, dX8_forget_37, dX8_forget_38, dX8_forget_41, dX8_forget_42, dX8_forget_43, dX8_forget_46, dX8_forget_47, dX8_forget_50, dX8_forget_51, dX8_forget_54, dX8_forget_55, dX8_forget_56, dX8_forget_57, dX8_forget_58, dX8_forget_61, dX8_forget_62, dX8_forget_63, dX8_forget_66, dX8_forget_67, dX8_forget_70, dX8_forget_71, dX8_forget_74, dX8_forget_75, dX8_forget_76, dX8_forget_77, dX8_forget_78, dX8_forget_79, dX8_forget_80, dX8_forget_83, dX8_forget_84, dX8_forget_87, dX8_forget_88, dX8_forget_91, dX8_forget_94, dX8_forget_95, cr_X8_forget_94, wr_X8_in]
        simp only [Int32.reduceLE, Int32.reduceLT, Int32.reduceAdd, Int32.reduceSub, and_self, and_true, true_and, false_and, and_false, true_implies, false_implies, not_true_eq_false, not_false_eq_true, z10, z01, z20, me02, me12, me21, mt0, mt1, mt2, mi02, mi12, z_rd, Nat.reduceEqDiff, if_true, if_false]
        rw [s1]
        have hM1 : MR (wSd T (0, tsd T)) (z_u S.1 0 21 0, S.2) := by
          refine MR_Wsd hM ⟨Nat.zero_le _, fun i hi => absurd hi (Nat.not_lt_zero _)⟩ ⟨?_, fun i hi => absurd hi (Nat.not_lt_zero _)⟩ (fun a ha => by dsimp only; rw [z_u_o (by omega)]) (fun j hj => by dsimp only; rw [z_u_nj hj])
          simp only [z_rd, Nat.reduceEqDiff, true_and, and_true, and_self, false_and, and_false, if_true, if_false]
          rfl
        have e2 : ∀ a b, z_u (z_u (z_u S.1 14 0 (S.1 14 0)) 14 1 (S.1 14 1)) 0 21 0 a b = z_u S.1 0 21 0 a b := by
          intro a b
          simp only [z_rd]
          by_cases h1 : a = 0 ∧ b = 21
          · rw [if_pos h1, if_pos h1]
          · rw [if_neg h1, if_neg h1]
            by_cases h2 : a = 14 ∧ b = 1
            · obtain ⟨rfl, rfl⟩ := h2; rw [if_pos ⟨rfl, rfl⟩]
            · rw [if_neg h2]
              by_cases h3 : a = 14 ∧ b = 0
              · obtain ⟨rfl, rfl⟩ := h3; rw [if_pos ⟨rfl, rfl⟩]
              · rw [if_neg h3]
        exact hk _ (MR_cg hM1 (fun a ha => by dsimp only; funext b; exact e2 a b) (fun j hj => e2 0 j))
      · refine hK (z_in []) 90 _ _ _ _ _ (Nat.zero_le _) ?_
        simp (config := { maxSteps := 10000000 }) only [z40, z20, z10, z01, zm0, z0m, ze_s, ze_ok, zt_s, zt_t, zt_f, zl_I, zl_J, zl_R, zl_N, zl_C, zl_K, zl_M, zl_ar0, zl_ar1, zl_ar2, zl_ar3, zl_as0, zl_as1, zl_as2, zl_al, zl_gf, zl_gr, zl_pf, zl_iv, zl_ivn, zlk_n, zlk_c, ztb_n, ztb_c, zin_n, zin_1, zin_c, Int.reduceLT, decide_true, decide_false, Bool.true_and, Bool.and_true, List.length_cons, List.length_nil, Int.reduceSub, Int.reduceEq, Int.natCast_zero, zk_s, z_in_n, z_in_c, z_gt_0, z_gt_s, zst_0, zst_1, zst_s, zsl_0, zsl_1, zsl_s, zc_n, zc_i, zc_l, zc_r, zc_u, zca_n, zca_i, zca_l, zca_r, zca_u, zrt_i, zrt_z, zrt_o, z_cal_0, z_cal_s, true_and, and_true, List.nil_append, List.cons_append, Option.toList_some, Option.toList_none, Nat.reduceAdd, Nat.reduceBEq, Nat.reduceLT, Nat.reduceLeDiff, Nat.reduceSub, Int.reduceAdd, Int.reduceLE, Int.reduceToNat, Int.cast_ofNat_Int, Bool.or_true, Bool.true_or, Bool.or_false, Bool.false_or, Nat.le_refl, Nat.zero_le, or_true, true_or, or_false, false_or, not_true_eq_false, not_false_eq_true, not_false_iff, false_implies, true_implies, eq_self, zo_iconst, zo_bipush, zo_sipush, zo_lconst, zo_ldc, zo_ldc_w, zo_ldc2_w, zo_iload_n, zo_iload, zo_lload_n, zo_lload, zo_aload_n, zo_aload, zo_istore_n, zo_istore, zo_lstore_n, zo_lstore, zo_astore_n, zo_astore, zo_iinc, zo_iadd, zo_isub, zo_imul, zo_iand, zo_ior, zo_ixor, zo_ishl, zo_ishr, zo_iushr, zo_idiv, zo_irem, zo_ladd, zo_lsub, zo_lmul, zo_ldiv, zo_lrem, zo_lcmp, zo_i2l, zo_i2b, zo_i2s, zo_dup, zo_dup2, zo_aconst_null, zo_if_icmp, zo_ifCond, zo_goto, zo_ifnull, zo_ifnonnull, zo_iaload, zo_baload, zo_laload, zo_aaload, zo_iastore, zo_bastore, zo_lastore, zo_arraylength, zo_getfield, zo_putfield, zo_tableswitch, zo_lookupswitch, zo_ireturn, zo_lreturn, zo_areturn, zo_return, zo_invokestatic, zo_invokevirtual, zo_new, zo_invokespecial, zo_newarray, zo_anewarray, zo_aastore, zy_0_1, zy_0_2, zy_0_3, zy_1_1, zy_1_2, zy_2_1, zy_2_2, zy_2_3, zy_3_0, zy_4_3, zy_5_1, zy_5_2, zy_6_5, zy_6_6, zy_6_7, zy_6_8, zy_6_9, zy_6_10, zy_7_2, zy_7_6, zy_7_9, zy_7_10, zy_7_11, zy_7_12, zy_7_14, zy_7_21, zy_7_30, zq_iconst, zq_bipush, zq_sipush, zq_lconst0, zq_lconst1, zq_ldc, zq_ldc_w, zq_ldc2_w, zq_iload0, zq_iload1, zq_iload2, zq_iload3, zq_iload, zq_lload0, zq_lload1, zq_lload2, zq_lload3, zq_lload, zq_aload0, zq_aload1, zq_aload2, zq_aload3, zq_aload, zq_istore0, zq_istore1, zq_istore2, zq_istore3, zq_istore, zq_lstore0, zq_lstore1, zq_lstore2, zq_lstore3, zq_lstore, zq_astore0, zq_astore0N, zq_astore1, zq_astore1N, zq_astore2, zq_astore2N, zq_astore3, zq_astore3N, zq_astore, zq_astoreN, zq_iinc, zq_iadd, zq_isub, zq_imul, zq_iand, zq_ior, zq_ixor, zq_ishl, zq_ishr, zq_iushr, zq_idiv, zq_irem, zq_ladd, zq_lsub, zq_lmul, zq_ldiv, zq_lrem, zq_lcmp, zq_i2l, zq_i2b, zq_i2s, zq_dup_i, zq_dup_r, zq_dup2, zq_null, zq_icmp_eq, zq_if_eq, zq_icmp_ne, zq_if_ne, zq_icmp_lt, zq_if_lt, zq_icmp_ge, zq_if_ge, zq_icmp_gt, zq_if_gt, zq_icmp_le, zq_if_le, zq_goto, zq_ifnull_r, zq_ifnull_n, zq_ifnonnull_r, zq_ifnonnull_n, zq_iaload, zq_baload, zq_laload, zq_aaload, zq_iastore, zq_bastore, zq_lastore, zq_alen, zq_getf, zq_put, zq_tsw, zq_lsw, zq_ireturn, zq_lreturn, zq_areturn, zq_areturnN, zq_return, zq_invokestatic, zq_invokevirtual, zq_new, zq_invokespecial, zq_newarray, zq_anewarray, zq_aastore, zi_m1, zi_0, zi_1, zi_2, zi_3, zi_4, zi_5, zi_6, zi_8, zi_16, zb_m10, zb_m4, zb_m3, zb_m2, zb_6, zb_7, zb_8, zb_9, zb_10, zb_16, zb_20, zb_23, zb_30, zb_32, zb_35, zb_46, zb_48, zb_56, zb_57, zb_59, zb_63, zb_70, zb_98, zb_99, zb_100, zb_111, zb_112, zs_192, zs_255, zs_256, zs_511, zs_512, zs_12345, zf_X8_7_0, zf_X8_13_0, zf_X8_112_0, zf_X8_16_0, zf_X8_19_0, zf_X8_22_0, zf_X8_115_0, zf_X8_25_0, zf_X8_28_0, zf_X8_78_0, zf_X8_82_0, zf_X8_85_0, zf_X8_144_0, zf_X8_31_0, zf_X8_137_0, zf_X8_34_0, zf_X8_38_0, zf_X8_41_0, zf_X8_44_0, zf_X8_47_0, zf_X8_50_0, zf_X8_234_0, zf_X8_53_0, zf_X8_56_0, zf_X8_59_0, zf_X8_62_0, zf_X8_66_0, zf_X8_69_0, zf_X8_72_0, zf_X8_75_0, zf_X8_244_0, zkc_X8_240, zkc_X8_253, zkl_X8_92, zkl_X8_262, zkl_X8_257, za_M_1, za_M_2, za_M_3, za_M_4, za_M_5, za_M_6, za_M_7, za_M_8, za_M_9, za_M_10, za_M_11, za_M_12, za_M_13, za_M_14, za_M_15, za_M_16, za_M_17, za_M_18, za_M_19, za_M_20, za_M_21, za_M_22, dX8_forget_0, dX8_forget_1, dX8_forget_2, dX8_forget_3, dX8_forget_6, dX8_forget_9, dX8_forget_11, dX8_forget_12, dX8_forget_13, dX8_forget_16, dX8_forget_17, dX8_forget_20, dX8_forget_21, dX8_forget_22, dX8_forget_23, dX8_forget_26, dX8_forget_27, dX8_forget_28, dX8_forget_29, dX8_forget_32, dX8_forget_33, dX8_forget_36, dX8_forget_37, dX8_forget_38, dX8_forget_41, dX8_forget_42, dX8_forget_43, dX8_forget_46, dX8_forget_47, dX8_forget_50, dX8_forget_51, dX8_forget_54, dX8_forget_55, dX8_forget_56, dX8_forget_57, dX8_forget_58, dX8_forget_61, dX8_forget_62, dX8_forget_63, dX8_forget_66, dX8_forget_67, dX8_forget_70, dX8_forget_71, dX8_forget_74, dX8_forget_75, dX8_forget_76, dX8_forget_77, dX8_forget_78, dX8_forget_79, dX8_forget_80, dX8_forget_83, dX8_forget_84, dX8_forget_87, dX8_forget_88, dX8_forget_91, dX8_forget_94, dX8_forget_95, cr_X8_forget_94, wr_X8_in]
        have w3 : ¬ i_in w 2 := fun q => (i_in2 q).elim w0 w1
        have g1 : q_forget T w = -2 := by simp [q_forget, w0, w1]
        have g2 : u_forget T w = T := by simp [u_forget, w0, w1]
        rw [g1, g2] at hk
        have fin := hk S hM
        simp only [w_in (m := 1) (M := 1) (by decide), w3, w0, w1, false_implies, not_false_eq_true, true_implies, true_and, and_true]
        exact fin
  · exact h.elim
theorem ok_X8_forget : z_Ok z_shM yX8_forget cX8_forget 3 (some .int) ({ frames := 1, cells := 0, slots := 0, locals := 22 } : Room) 0 wp_X8_forget := z_Ok_of pu_X8_forget z_fX8_ok z_kX8_ok co_X8_forget ⟨by decide, by decide⟩ (by decide +kernel)
theorem rec_X8_forget : z_rec z_shM wp_X8_forget 7 := by
  intro as S post h
  unfold wp_X8_forget at h
  split at h
  · exact ⟨_, _, _, rfl, rfl⟩
  · exact h.elim
def wp_X8_said : ZW := fun as S k => match as with
  | [.ref 0, .int w, .int v, .int i] => ∃ T : ZT, MR T S ∧ ∀ S', MR (u_said T w v i) S' → k (some (.int (q_said T w v i))) S'
  | _ => False
theorem wr_X8_said {w : Int32} {v : Int32} {i : Int32} {S : ZS} {k : Option Value → ZS → Prop} : wp_X8_said [.ref 0, .int w, .int v, .int i] S k = (∃ T : ZT, MR T S ∧ ∀ S', MR (u_said T w v i) S' → k (some (.int (q_said T w v i))) S') := rfl
def cs_X8_said : List (Nat × ZC) := [(94, (3, 0, true, wp_X8_in))]
theorem cr_X8_said_94 : cs_X8_said.lookup 94 = some (3, 0, true, wp_X8_in) := rfl
set_option maxRecDepth 20000 in
theorem co_X8_said : z_csok RX8 ({ frames := 1, cells := 0, slots := 0, locals := 22 } : Room) z_shM cs_X8_said := z_cs2 (z_csS ok_X8_in (z_g 789 (by decide +kernel) rfl) (z_g 790 (by decide +kernel) rfl) (z_g 51 (by decide +kernel) rfl) (z_g 791 (by decide +kernel) rfl) rfl rfl (by decide +kernel) ⟨by decide, by decide⟩)
  (z_cs0)
set_option maxHeartbeats 4000000 in
set_option maxRecDepth 20000 in
theorem pu_X8_said : z_Pure cX8_said 6 z_shM z_fX8 cs_X8_said z_kcX8 z_klX8 (some .int) 0 wp_X8_said := by
  intro as S post h
  unfold wp_X8_said at h
  split at h
  · rename_i w v i
    refine ⟨Nat.le_of_ble_eq_true rfl, fun K hK => ?_⟩
    change K 0 0 [some (.ref 0), some (.int w), some (.int v), some (.int i), none, none] [] S
    obtain ⟨T, hM, hk⟩ := h
    obtain ⟨s1, s2⟩ := id hM.2.2.2.2.2.1
    have hI : ab_sai (tns T) (tsd T) := hM.1.2.2.2.2.2.1
    have hn := hI.1
    have e8 : (-1 ≤ v ∧ v ≤ 8) ↔ (-1 ≤ v.toInt ∧ v.toInt ≤ 8) := by rw [i_le, i_le]; simp
    have bad : ¬ (((w = 0 ∧ i_in v 10) ∨ (w = 1 ∧ i_in v 3) ∨ (w = 2 ∧ -1 ≤ v.toInt ∧ v.toInt ≤ 8)) ∧ i_in i 2) → post (some (.int (-2))) S := by
      intro q
      have g1 : q_said T w v i = -2 := by unfold q_said; rw [if_neg q]
      have g2 : u_said T w v i = T := by unfold u_said; rw [if_neg (fun z => q z.1)]
      rw [g1, g2] at hk
      exact hk S hM
    have full : (((w = 0 ∧ i_in v 10) ∨ (w = 1 ∧ i_in v 3) ∨ (w = 2 ∧ -1 ≤ v.toInt ∧ v.toInt ≤ 8)) ∧ i_in i 2) → tns T = 8 → post (some (.int (-4))) S := by
      intro q e
      have g1 : q_said T w v i = -4 := by unfold q_said; rw [if_pos q, if_pos e]
      have g2 : u_said T w v i = T := by unfold u_said; rw [if_neg (fun z => z.2 e)]
      rw [g1, g2] at hk
      exact hk S hM
    have good : ∀ u : Nat, w = nI u → u ≤ 2 → (((w = 0 ∧ i_in v 10) ∨ (w = 1 ∧ i_in v 3) ∨ (w = 2 ∧ -1 ≤ v.toInt ∧ v.toInt ≤ 8)) ∧ i_in i 2) → ¬ tns T = 8 → vp_in (nI (tns T)) 8 ∧ post (some (.int (nI (tns T + 1)))) (z_u (z_u (z_u (z_u S.1 15 (tns T) w) 16 (tns T) v) 17 (tns T) i) 0 21 (nI (tns T + 1)), S.2) := by
      intro u hu hu2 q e
      obtain ⟨ei, hi⟩ := i_inI q.2 (by omega)
      have ew : cn w = u := by subst hu; exact n_cl (by omega)
      have g1 : q_said T w v i = nI (tns T + 1) := by unfold q_said; rw [if_pos q, if_neg e]
      have g2 : u_said T w v i = wSd T (tns T + 1, va_up (tsd T) (tns T) (u, v, cn i)) := by unfold u_said; rw [if_pos ⟨q, e⟩, ew]
      rw [g1, g2] at hk
      refine ⟨n_in (by omega) (by omega), hk _ (MR_Wsd hM ⟨by dsimp only; omega, fun j hj => ?_⟩ ⟨?_, fun j hj => ?_⟩ (fun a ha => by dsimp only; rw [z_u_o (by omega), z_u_o (by omega), z_u_o (by omega), z_u_o (by omega)]) (fun j hj => by dsimp only; rw [z_u_nj hj, z_u_nk (by omega), z_u_nk (by omega), z_u_nk (by omega)]))⟩
      · dsimp only at hj ⊢
        by_cases ej : j = tns T
        · subst ej; rw [va_up_self]; exact ⟨hu2, by dsimp only; omega⟩
        · rw [va_up_ne _ _ ej]; exact hI.2 j (by omega)
      · simp only [z_rd, Nat.reduceEqDiff, true_and, and_true, and_self, false_and, and_false, if_true, if_false]
      · have hj : j < tns T + 1 := hj
        show _ = nI (va_up (tsd T) (tns T) (u, v, cn i) j).1 ∧ _ = (va_up (tsd T) (tns T) (u, v, cn i) j).2.1 ∧ _ = nI (va_up (tsd T) (tns T) (u, v, cn i) j).2.2
        simp only [z_rd, Nat.reduceEqDiff, true_and, and_true, and_self, false_and, and_false, if_true, if_false]
        by_cases ej : j = tns T
        · subst ej
          simp only [if_true, va_up_self]
          exact ⟨hu, trivial, ei⟩
        · simp only [if_neg ej, va_up_ne _ _ ej]; exact s2 j (by omega)
    by_cases w0 : w = 0
    · subst w0
      refine hK (z_in []) 90 _ _ _ _ _ (Nat.zero_le _) ?_
      simp (config := { maxSteps := 10000000 }) only [z40, z20, z10, z01, zm0, z0m, ze_s, ze_ok, zt_s, zt_t, zt_f, zl_I, zl_J, zl_R, zl_N, zl_C, zl_K, zl_M, zl_ar0, zl_ar1, zl_ar2, zl_ar3, zl_as0, zl_as1, zl_as2, zl_al, zl_gf, zl_gr, zl_pf, zl_iv, zl_ivn, zlk_n, zlk_c, ztb_n, ztb_c, zin_n, zin_1, zin_c, Int.reduceLT, decide_true, decide_false, Bool.true_and, Bool.and_true, List.length_cons, List.length_nil, Int.reduceSub, Int.reduceEq, Int.natCast_zero, zk_s, z_in_n, z_in_c, z_gt_0, z_gt_s, zst_0, zst_1, zst_s, zsl_0, zsl_1, zsl_s, zc_n, zc_i, zc_l, zc_r, zc_u, zca_n, zca_i, zca_l, zca_r, zca_u, zrt_i, zrt_z, zrt_o, z_cal_0, z_cal_s, true_and, and_true, List.nil_append, List.cons_append, Option.toList_some, Option.toList_none, Nat.reduceAdd, Nat.reduceBEq, Nat.reduceLT, Nat.reduceLeDiff, Nat.reduceSub, Int.reduceAdd, Int.reduceLE, Int.reduceToNat, Int.cast_ofNat_Int, Bool.or_true, Bool.true_or, Bool.or_false, Bool.false_or, Nat.le_refl, Nat.zero_le, or_true, true_or, or_false, false_or, not_true_eq_false, not_false_eq_true, not_false_iff, false_implies, true_implies, eq_self, zo_iconst, zo_bipush, zo_sipush, zo_lconst, zo_ldc, zo_ldc_w, zo_ldc2_w, zo_iload_n, zo_iload, zo_lload_n, zo_lload, zo_aload_n, zo_aload, zo_istore_n, zo_istore, zo_lstore_n, zo_lstore, zo_astore_n, zo_astore, zo_iinc, zo_iadd, zo_isub, zo_imul, zo_iand, zo_ior, zo_ixor, zo_ishl, zo_ishr, zo_iushr, zo_idiv, zo_irem, zo_ladd, zo_lsub, zo_lmul, zo_ldiv, zo_lrem, zo_lcmp, zo_i2l, zo_i2b, zo_i2s, zo_dup, zo_dup2, zo_aconst_null, zo_if_icmp, zo_ifCond, zo_goto, zo_ifnull, zo_ifnonnull, zo_iaload, zo_baload, zo_laload, zo_aaload, zo_iastore, zo_bastore, zo_lastore, zo_arraylength, zo_getfield, zo_putfield, zo_tableswitch, zo_lookupswitch, zo_ireturn, zo_lreturn, zo_areturn, zo_return, zo_invokestatic, zo_invokevirtual, zo_new, zo_invokespecial, zo_newarray, zo_anewarray, zo_aastore, zy_0_1, zy_0_2, zy_0_3, zy_1_1, zy_1_2, zy_2_1, zy_2_2, zy_2_3, zy_3_0, zy_4_3, zy_5_1, zy_5_2, zy_6_5, zy_6_6, zy_6_7, zy_6_8, zy_6_9, zy_6_10, zy_7_2, zy_7_6, zy_7_9, zy_7_10, zy_7_11, zy_7_12, zy_7_14, zy_7_21, zy_7_30, zq_iconst, zq_bipush, zq_sipush, zq_lconst0, zq_lconst1, zq_ldc, zq_ldc_w, zq_ldc2_w, zq_iload0, zq_iload1, zq_iload2, zq_iload3, zq_iload, zq_lload0, zq_lload1, zq_lload2, zq_lload3, zq_lload, zq_aload0, zq_aload1, zq_aload2, zq_aload3, zq_aload, zq_istore0, zq_istore1, zq_istore2, zq_istore3, zq_istore, zq_lstore0, zq_lstore1, zq_lstore2, zq_lstore3, zq_lstore, zq_astore0, zq_astore0N, zq_astore1, zq_astore1N, zq_astore2, zq_astore2N, zq_astore3, zq_astore3N, zq_astore, zq_astoreN, zq_iinc, zq_iadd, zq_isub, zq_imul, zq_iand, zq_ior, zq_ixor, zq_ishl, zq_ishr, zq_iushr, zq_idiv, zq_irem, zq_ladd, zq_lsub, zq_lmul, zq_ldiv, zq_lrem, zq_lcmp, zq_i2l, zq_i2b, zq_i2s, zq_dup_i, zq_dup_r, zq_dup2, zq_null, zq_icmp_eq, zq_if_eq, zq_icmp_ne, zq_if_ne, zq_icmp_lt, zq_if_lt, zq_icmp_ge, zq_if_ge, zq_icmp_gt, zq_if_gt, zq_icmp_le, zq_if_le, zq_goto, zq_ifnull_r, zq_ifnull_n, zq_ifnonnull_r, zq_ifnonnull_n, zq_iaload, zq_baload, zq_laload, zq_aaload, zq_iastore, zq_bastore, zq_lastore, zq_alen, zq_getf, zq_put, zq_tsw, zq_lsw, zq_ireturn, zq_lreturn, zq_areturn, zq_areturnN, zq_return, zq_invokestatic, zq_invokevirtual, zq_new, zq_invokespecial, zq_newarray, zq_anewarray, zq_aastore, zi_m1, zi_0, zi_1, zi_2, zi_3, zi_4, zi_5, zi_6, zi_8, zi_16, zb_m10, zb_m4, zb_m3, zb_m2, zb_6, zb_7, zb_8, zb_9, zb_10, zb_16, zb_20, zb_23, zb_30, zb_32, zb_35, zb_46, zb_48, zb_56, zb_57, zb_59, zb_63, zb_70, zb_98, zb_99, zb_100, zb_111, zb_112, zs_192, zs_255, zs_256, zs_511, zs_512, zs_12345, zf_X8_7_0, zf_X8_13_0, zf_X8_112_0, zf_X8_16_0, zf_X8_19_0, zf_X8_22_0, zf_X8_115_0, zf_X8_25_0, zf_X8_28_0, zf_X8_78_0, zf_X8_82_0, zf_X8_85_0, zf_X8_144_0, zf_X8_31_0, zf_X8_137_0, zf_X8_34_0, zf_X8_38_0, zf_X8_41_0, zf_X8_44_0, zf_X8_47_0, zf_X8_50_0, zf_X8_234_0, zf_X8_53_0, zf_X8_56_0, zf_X8_59_0, zf_X8_62_0, zf_X8_66_0, zf_X8_69_0, zf_X8_72_0, zf_X8_75_0, zf_X8_244_0, zkc_X8_240, zkc_X8_253, zkl_X8_92, zkl_X8_262, zkl_X8_257, za_M_1, za_M_2, za_M_3, za_M_4, za_M_5, za_M_6, za_M_7, za_M_8, za_M_9, za_M_10, za_M_11, za_M_12, za_M_13, za_M_14, za_M_15, za_M_16, za_M_17, za_M_18, za_M_19, za_M_20, za_M_21, za_M_22, dX8_said_0, dX8_said_1, dX8_said_2, dX8_said_5, dX8_said_6, dX8_said_9, dX8_said_10, dX8_said_12, dX8_said_13, dX8_said_16, dX8_said_18, dX8_said_21, dX8_said_22, dX8_said_23, dX8_said_26, dX8_said_27, dX8_said_30, dX8_said_32, dX8_said_34, dX8_said_35, dX8_said_36, dX8_said_37, dX8_said_40, dX8_said_43, dX8_said_44, dX8_said_46, dX8_said_48, dX8_said_51, dX8_said_54, dX8_said_55, dX8_said_56, dX8_said_57, dX8_said_60, dX8_said_63, dX8_said_65, dX8_said_66, dX8_said_67, dX8_said_70, dX8_said_72, dX8_said_75, dX8_said_77, dX8_said_78, dX8_said_79, dX8_said_82, dX8_said_83, dX8_said_86, dX8_said_87, dX8_said_88, dX8_said_89, dX8_said_92, dX8_said_93, dX8_said_96, dX8_said_97, dX8_said_98, dX8_said_99, dX8_said_102, dX8_said_103, dX8_said_106, dX8_said_107, dX8_said_108, dX8_said_109, dX8_said_110, dX8_said_113, dX8_said_114, dX8_said_115, dX8_said_118, dX8_said_119, dX8_said_122, cr_X8_said_94, wr_X8_in]
      simp only [s1, n_cl (show tns T < 2147483648 by omega)]
      simp only [Int32.reduceLE, Int32.reduceLT, Int32.reduceAdd, Int32.reduceSub, and_self, and_true, true_and, false_and, and_false, true_implies, false_implies, not_true_eq_false, not_false_eq_true, z10, z01, z20, me02, me12, me21, mt0, mt1, mt2, mi02, mi12, z_rd, Nat.reduceEqDiff, if_true, if_false]
      simp only [w_in (m := 9) (M := 9) (by decide), w_in (m := 1) (M := 1) (by decide), s1, n_cl (show tns T < 2147483648 by omega), n_eqL (n := tns T) (M := 8) 8 rfl (by omega) (by omega), nI_1]
      refine ⟨fun a => ⟨fun b => ⟨fun e => full ⟨Or.inl ⟨rfl, a⟩, b⟩ e, fun e => ?_⟩, fun b => bad (fun q => b q.2)⟩, fun a => bad ?_⟩
      · have := good 0 rfl (by omega) ⟨Or.inl ⟨rfl, a⟩, b⟩ e
        exact ⟨this.1, this.1, this.1, this.2⟩
      · rintro ⟨⟨-, z⟩ | ⟨q, -⟩ | ⟨q, -⟩, -⟩
        · exact a z
        · exact absurd q (by decide)
        · exact absurd q (by decide)
    · by_cases w1 : w = 1
      · subst w1
        refine hK (z_in []) 90 _ _ _ _ _ (Nat.zero_le _) ?_
        simp (config := { maxSteps := 10000000 }) only [z40, z20, z10, z01, zm0, z0m, ze_s, ze_ok, zt_s, zt_t, zt_f, zl_I, zl_J, zl_R, zl_N, zl_C, zl_K, zl_M, zl_ar0, zl_ar1, zl_ar2, zl_ar3, zl_as0, zl_as1, zl_as2, zl_al, zl_gf, zl_gr, zl_pf, zl_iv, zl_ivn, zlk_n, zlk_c, ztb_n, ztb_c, zin_n, zin_1, zin_c, Int.reduceLT, decide_true, decide_false, Bool.true_and, Bool.and_true, List.length_cons, List.length_nil, Int.reduceSub, Int.reduceEq, Int.natCast_zero, zk_s, z_in_n, z_in_c, z_gt_0, z_gt_s, zst_0, zst_1, zst_s, zsl_0, zsl_1, zsl_s, zc_n, zc_i, zc_l, zc_r, zc_u, zca_n, zca_i, zca_l, zca_r, zca_u, zrt_i, zrt_z, zrt_o, z_cal_0, z_cal_s, true_and, and_true, List.nil_append, List.cons_append, Option.toList_some, Option.toList_none, Nat.reduceAdd, Nat.reduceBEq, Nat.reduceLT, Nat.reduceLeDiff, Nat.reduceSub, Int.reduceAdd, Int.reduceLE, Int.reduceToNat, Int.cast_ofNat_Int, Bool.or_true, Bool.true_or, Bool.or_false, Bool.false_or, Nat.le_refl, Nat.zero_le, or_true, true_or, or_false, false_or, not_true_eq_false, not_false_eq_true, not_false_iff, false_implies, true_implies, eq_self, zo_iconst, zo_bipush, zo_sipush, zo_lconst, zo_ldc, zo_ldc_w, zo_ldc2_w, zo_iload_n, zo_iload, zo_lload_n, zo_lload, zo_aload_n, zo_aload, zo_istore_n, zo_istore, zo_lstore_n, zo_lstore, zo_astore_n, zo_astore, zo_iinc, zo_iadd, zo_isub, zo_imul, zo_iand, zo_ior, zo_ixor, zo_ishl, zo_ishr, zo_iushr, zo_idiv, zo_irem, zo_ladd, zo_lsub, zo_lmul, zo_ldiv, zo_lrem, zo_lcmp, zo_i2l, zo_i2b, zo_i2s, zo_dup, zo_dup2, zo_aconst_null, zo_if_icmp, zo_ifCond, zo_goto, zo_ifnull, zo_ifnonnull, zo_iaload, zo_baload, zo_laload, zo_aaload, zo_iastore, zo_bastore, zo_lastore, zo_arraylength, zo_getfield, zo_putfield, zo_tableswitch, zo_lookupswitch, zo_ireturn, zo_lreturn, zo_areturn, zo_return, zo_invokestatic, zo_invokevirtual, zo_new, zo_invokespecial, zo_newarray, zo_anewarray, zo_aastore, zy_0_1, zy_0_2, zy_0_3, zy_1_1, zy_1_2, zy_2_1, zy_2_2, zy_2_3, zy_3_0, zy_4_3, zy_5_1, zy_5_2, zy_6_5, zy_6_6, zy_6_7, zy_6_8, zy_6_9, zy_6_10, zy_7_2, zy_7_6, zy_7_9, zy_7_10, zy_7_11, zy_7_12, zy_7_14, zy_7_21, zy_7_30, zq_iconst, zq_bipush, zq_sipush, zq_lconst0, zq_lconst1, zq_ldc, zq_ldc_w, zq_ldc2_w, zq_iload0, zq_iload1, zq_iload2, zq_iload3, zq_iload, zq_lload0, zq_lload1, zq_lload2, zq_lload3, zq_lload, zq_aload0, zq_aload1, zq_aload2, zq_aload3, zq_aload, zq_istore0, zq_istore1, zq_istore2, zq_istore3, zq_istore, zq_lstore0, zq_lstore1, zq_lstore2, zq_lstore3, zq_lstore, zq_astore0, zq_astore0N, zq_astore1, zq_astore1N, zq_astore2, zq_astore2N, zq_astore3, zq_astore3N, zq_astore, zq_astoreN, zq_iinc, zq_iadd, zq_isub, zq_imul, zq_iand, zq_ior, zq_ixor, zq_ishl, zq_ishr, zq_iushr, zq_idiv, zq_irem, zq_ladd, zq_lsub, zq_lmul, zq_ldiv, zq_lrem, zq_lcmp, zq_i2l, zq_i2b, zq_i2s, zq_dup_i, zq_dup_r, zq_dup2, zq_null, zq_icmp_eq, zq_if_eq, zq_icmp_ne, zq_if_ne, zq_icmp_lt, zq_if_lt, zq_icmp_ge, zq_if_ge, zq_icmp_gt, zq_if_gt, zq_icmp_le, zq_if_le, zq_goto, zq_ifnull_r, zq_ifnull_n, zq_ifnonnull_r, zq_ifnonnull_n, zq_iaload, zq_baload, zq_laload, zq_aaload, zq_iastore, zq_bastore, zq_lastore, zq_alen, zq_getf, zq_put, zq_tsw, zq_lsw, zq_ireturn, zq_lreturn, zq_areturn, zq_areturnN, zq_return, zq_invokestatic, zq_invokevirtual, zq_new, zq_invokespecial, zq_newarray, zq_anewarray, zq_aastore, zi_m1, zi_0, zi_1, zi_2, zi_3, zi_4, zi_5, zi_6, zi_8, zi_16, zb_m10, zb_m4, zb_m3, zb_m2, zb_6, zb_7, zb_8, zb_9, zb_10, zb_16, zb_20, zb_23, zb_30, zb_32, zb_35, zb_46, zb_48, zb_56, zb_57, zb_59, zb_63, zb_70, zb_98, zb_99, zb_100, zb_111, zb_112, zs_192, zs_255, zs_256, zs_511, zs_512, zs_12345, zf_X8_7_0, zf_X8_13_0, zf_X8_112_0, zf_X8_16_0, zf_X8_19_0, zf_X8_22_0, zf_X8_115_0, zf_X8_25_0, zf_X8_28_0, zf_X8_78_0, zf_X8_82_0, zf_X8_85_0, zf_X8_144_0, zf_X8_31_0, zf_X8_137_0, zf_X8_34_0, zf_X8_38_0, zf_X8_41_0, zf_X8_44_0, zf_X8_47_0, zf_X8_50_0, zf_X8_234_0, zf_X8_53_0, zf_X8_56_0, zf_X8_59_0, zf_X8_62_0, zf_X8_66_0, zf_X8_69_0, zf_X8_72_0, zf_X8_75_0, zf_X8_244_0, zkc_X8_240, zkc_X8_253, zkl_X8_92, zkl_X8_262, zkl_X8_257, za_M_1, za_M_2, za_M_3, za_M_4, za_M_5, za_M_6, za_M_7, za_M_8, za_M_9, za_M_10, za_M_11, za_M_12, za_M_13, za_M_14, za_M_15, za_M_16, za_M_17, za_M_18, za_M_19, za_M_20, za_M_21, za_M_22, dX8_said_0, dX8_said_1, dX8_said_2, dX8_said_5, dX8_said_6, dX8_said_9, dX8_said_10, dX8_said_12, dX8_said_13, dX8_said_16, dX8_said_18, dX8_said_21, dX8_said_22, dX8_said_23, dX8_said_26, dX8_said_27, dX8_said_30, dX8_said_32, dX8_said_34, dX8_said_35, dX8_said_36, dX8_said_37, dX8_said_40, dX8_said_43, dX8_said_44, dX8_said_46, dX8_said_48, dX8_said_51, dX8_said_54, dX8_said_55, dX8_said_56, dX8_said_57, dX8_said_60, dX8_said_63, dX8_said_65, dX8_said_66, dX8_said_67, dX8_said_70, dX8_said_72, dX8_said_75, dX8_said_77, dX8_said_78, dX8_said_79, dX8_said_82, dX8_said_83, dX8_said_86, dX8_said_87, dX8_said_88, dX8_said_89, dX8_said_92, dX8_said_93, dX8_said_96, dX8_said_97, dX8_said_98, dX8_said_99, dX8_said_102, dX8_said_103, dX8_said_106, dX8_said_107, dX8_said_108, dX8_said_109, dX8_said_110, dX8_said_113, dX8_said_114, dX8_said_115, dX8_said_118, dX8_said_119, dX8_said_122, cr_X8_said_94, wr_X8_in]
        simp only [s1, n_cl (show tns T < 2147483648 by omega)]
        simp only [Int32.reduceLE, Int32.reduceLT, Int32.reduceAdd, Int32.reduceSub, and_self, and_true, true_and, false_and, and_false, true_implies, false_implies, not_true_eq_false, not_false_eq_true, z10, z01, z20, me02, me12, me21, mt0, mt1, mt2, mi02, mi12, z_rd, Nat.reduceEqDiff, if_true, if_false]
        simp only [w_in (m := 2) (M := 2) (by decide), w_in (m := 1) (M := 1) (by decide), s1, n_cl (show tns T < 2147483648 by omega), n_eqL (n := tns T) (M := 8) 8 rfl (by omega) (by omega), nI_1]
        refine ⟨fun a => ⟨fun b => ⟨fun e => full ⟨Or.inr (Or.inl ⟨rfl, a⟩), b⟩ e, fun e => ?_⟩, fun b => bad (fun q => b q.2)⟩, fun a => bad ?_⟩
        · have := good 1 rfl (by omega) ⟨Or.inr (Or.inl ⟨rfl, a⟩), b⟩ e
          exact ⟨this.1, this.1, this.1, this.2⟩
        · rintro ⟨⟨q, -⟩ | ⟨-, z⟩ | ⟨q, -⟩, -⟩
          · exact absurd q (by decide)
          · exact a z
          · exact absurd q (by decide)
      · by_cases w2 : w = 2
        · subst w2
          refine hK (z_in []) 90 _ _ _ _ _ (Nat.zero_le _) ?_
          simp (config := { maxSteps := 10000000 }) only [z40, z20, z10, z01, zm0, z0m, ze_s, ze_ok, zt_s, zt_t, zt_f, zl_I, zl_J, zl_R, zl_N, zl_C, zl_K, zl_M, zl_ar0, zl_ar1, zl_ar2, zl_ar3, zl_as0, zl_as1, zl_as2, zl_al, zl_gf, zl_gr, zl_pf, zl_iv, zl_ivn, zlk_n, zlk_c, ztb_n, ztb_c, zin_n, zin_1, zin_c, Int.reduceLT, decide_true, decide_false, Bool.true_and, Bool.and_true, List.length_cons, List.length_nil, Int.reduceSub, Int.reduceEq, Int.natCast_zero, zk_s, z_in_n, z_in_c, z_gt_0, z_gt_s, zst_0, zst_1, zst_s, zsl_0, zsl_1, zsl_s, zc_n, zc_i, zc_l, zc_r, zc_u, zca_n, zca_i, zca_l, zca_r, zca_u, zrt_i, zrt_z, zrt_o, z_cal_0, z_cal_s, true_and, and_true, List.nil_append, List.cons_append, Option.toList_some, Option.toList_none, Nat.reduceAdd, Nat.reduceBEq, Nat.reduceLT, Nat.reduceLeDiff, Nat.reduceSub, Int.reduceAdd, Int.reduceLE, Int.reduceToNat, Int.cast_ofNat_Int, Bool.or_true, Bool.true_or, Bool.or_false, Bool.false_or, Nat.le_refl, Nat.zero_le, or_true, true_or, or_false, false_or, not_true_eq_false, not_false_eq_true, not_false_iff, false_implies, true_implies, eq_self, zo_iconst, zo_bipush, zo_sipush, zo_lconst, zo_ldc, zo_ldc_w, zo_ldc2_w, zo_iload_n, zo_iload, zo_lload_n, zo_lload, zo_aload_n, zo_aload, zo_istore_n, zo_istore, zo_lstore_n, zo_lstore, zo_astore_n, zo_astore, zo_iinc, zo_iadd, zo_isub, zo_imul, zo_iand, zo_ior, zo_ixor, zo_ishl, zo_ishr, zo_iushr, zo_idiv, zo_irem, zo_ladd, zo_lsub, zo_lmul, zo_ldiv, zo_lrem, zo_lcmp, zo_i2l, zo_i2b, zo_i2s, zo_dup, zo_dup2, zo_aconst_null, zo_if_icmp, zo_ifCond, zo_goto, zo_ifnull, zo_ifnonnull, zo_iaload, zo_baload, zo_laload, zo_aaload, zo_iastore, zo_bastore, zo_lastore, zo_arraylength, zo_getfield, zo_putfield, zo_tableswitch, zo_lookupswitch, zo_ireturn, zo_lreturn, zo_areturn, zo_return, zo_invokestatic, zo_invokevirtual, zo_new, zo_invokespecial, zo_newarray, zo_anewarray, zo_aastore, zy_0_1, zy_0_2, zy_0_3, zy_1_1, zy_1_2, zy_2_1, zy_2_2, zy_2_3, zy_3_0, zy_4_3, zy_5_1, zy_5_2, zy_6_5, zy_6_6, zy_6_7, zy_6_8, zy_6_9, zy_6_10, zy_7_2, zy_7_6, zy_7_9, zy_7_10, zy_7_11, zy_7_12, zy_7_14, zy_7_21, zy_7_30, zq_iconst, zq_bipush, zq_sipush, zq_lconst0, zq_lconst1, zq_ldc, zq_ldc_w, zq_ldc2_w, zq_iload0, zq_iload1, zq_iload2, zq_iload3, zq_iload, zq_lload0, zq_lload1, zq_lload2, zq_lload3, zq_lload, zq_aload0, zq_aload1, zq_aload2, zq_aload3, zq_aload, zq_istore0, zq_istore1, zq_istore2, zq_istore3, zq_istore, zq_lstore0, zq_lstore1, zq_lstore2, zq_lstore3, zq_lstore, zq_astore0, zq_astore0N, zq_astore1, zq_astore1N, zq_astore2, zq_astore2N, zq_astore3, zq_astore3N, zq_astore, zq_astoreN, zq_iinc, zq_iadd, zq_isub, zq_imul, zq_iand, zq_ior, zq_ixor, zq_ishl, zq_ishr, zq_iushr, zq_idiv, zq_irem, zq_ladd, zq_lsub, zq_lmul, zq_ldiv, zq_lrem, zq_lcmp, zq_i2l, zq_i2b, zq_i2s, zq_dup_i, zq_dup_r, zq_dup2, zq_null, zq_icmp_eq, zq_if_eq, zq_icmp_ne, zq_if_ne, zq_icmp_lt, zq_if_lt, zq_icmp_ge, zq_if_ge, zq_icmp_gt, zq_if_gt, zq_icmp_le, zq_if_le, zq_goto, zq_ifnull_r, zq_ifnull_n, zq_ifnonnull_r, zq_ifnonnull_n, zq_iaload, zq_baload, zq_laload, zq_aaload, zq_iastore, zq_bastore, zq_lastore, zq_alen, zq_getf, zq_put, zq_tsw, zq_lsw, zq_ireturn, zq_lreturn, zq_areturn, zq_areturnN, zq_return, zq_invokestatic, zq_invokevirtual, zq_new, zq_invokespecial, zq_newarray, zq_anewarray, zq_aastore, zi_m1, zi_0, zi_1, zi_2, zi_3, zi_4, zi_5, zi_6, zi_8, zi_16, zb_m10, zb_m4, zb_m3, zb_m2, zb_6, zb_7, zb_8, zb_9, zb_10, zb_16, zb_20, zb_23, zb_30, zb_32, zb_35, zb_46, zb_48, zb_56, zb_57, zb_59, zb_63, zb_70, zb_98, zb_99, zb_100, zb_111, zb_112, zs_192, zs_255, zs_256, zs_511, zs_512, zs_12345, zf_X8_7_0, zf_X8_13_0, zf_X8_112_0, zf_X8_16_0, zf_X8_19_0, zf_X8_22_0, zf_X8_115_0, zf_X8_25_0, zf_X8_28_0, zf_X8_78_0, zf_X8_82_0, zf_X8_85_0, zf_X8_144_0, zf_X8_31_0, zf_X8_137_0, zf_X8_34_0, zf_X8_38_0, zf_X8_41_0, zf_X8_44_0, zf_X8_47_0, zf_X8_50_0, zf_X8_234_0, zf_X8_53_0, zf_X8_56_0, zf_X8_59_0, zf_X8_62_0, zf_X8_66_0, zf_X8_69_0, zf_X8_72_0, zf_X8_75_0, zf_X8_244_0, zkc_X8_240, zkc_X8_253, zkl_X8_92, zkl_X8_262, zkl_X8_257, za_M_1, za_M_2, za_M_3, za_M_4, za_M_5, za_M_6, za_M_7, za_M_8, za_M_9, za_M_10, za_M_11, za_M_12, za_M_13, za_M_14, za_M_15, za_M_16, za_M_17, za_M_18, za_M_19, za_M_20, za_M_21, za_M_22, dX8_said_0, dX8_said_1, dX8_said_2, dX8_said_5, dX8_said_6, dX8_said_9, dX8_said_10, dX8_said_12, dX8_said_13, dX8_said_16, dX8_said_18, dX8_said_21, dX8_said_22, dX8_said_23, dX8_said_26, dX8_said_27, dX8_said_30, dX8_said_32, dX8_said_34, dX8_said_35, dX8_said_36, dX8_said_37, dX8_said_40, dX8_said_43, dX8_said_44, dX8_said_46, dX8_said_48, dX8_said_51, dX8_said_54, dX8_said_55, dX8_said_56, dX8_said_57, dX8_said_60, dX8_said_63, dX8_said_65, dX8_said_66, dX8_said_67, dX8_said_70, dX8_said_72, dX8_said_75, dX8_said_77, dX8_said_78, dX8_said_79, dX8_said_82, dX8_said_83, dX8_said_86, dX8_said_87, dX8_said_88, dX8_said_89, dX8_said_92, dX8_said_93, dX8_said_96, dX8_said_97, dX8_said_98, dX8_said_99, dX8_said_102, dX8_said_103, dX8_said_106, dX8_said_107, dX8_said_108, dX8_said_109, dX8_said_110, dX8_said_113, dX8_said_114, dX8_said_115, dX8_said_118, dX8_said_119, dX8_said_122, cr_X8_said_94, wr_X8_in]
          simp only [s1, n_cl (show tns T < 2147483648 by omega)]
          simp only [Int32.reduceLE, Int32.reduceLT, Int32.reduceAdd, Int32.reduceSub, and_self, and_true, true_and, false_and, and_false, true_implies, false_implies, not_true_eq_false, not_false_eq_true, z10, z01, z20, me02, me12, me21, mt0, mt1, mt2, mi02, mi12, z_rd, Nat.reduceEqDiff, if_true, if_false]
          simp only [e8, w_in (m := 1) (M := 1) (by decide), s1, n_cl (show tns T < 2147483648 by omega), n_eqL (n := tns T) (M := 8) 8 rfl (by omega) (by omega), nI_1]
          refine ⟨fun a => ⟨fun b => ⟨fun e => full ⟨Or.inr (Or.inr ⟨rfl, a⟩), b⟩ e, fun e => ?_⟩, fun b => bad (fun q => b q.2)⟩, fun a => bad ?_⟩
          · have := good 2 rfl (by omega) ⟨Or.inr (Or.inr ⟨rfl, a⟩), b⟩ e
            exact ⟨this.1, this.1, this.1, this.2⟩
          · rintro ⟨⟨q, -⟩ | ⟨q, -⟩ | ⟨-, z⟩, -⟩
            · exact absurd q (by decide)
            · exact absurd q (by decide)
            · exact a z
        · refine hK (z_in []) 90 _ _ _ _ _ (Nat.zero_le _) ?_
          simp (config := { maxSteps := 10000000 }) only [z40, z20, z10, z01, zm0, z0m, ze_s, ze_ok, zt_s, zt_t, zt_f, zl_I, zl_J, zl_R, zl_N, zl_C, zl_K, zl_M, zl_ar0, zl_ar1, zl_ar2, zl_ar3, zl_as0, zl_as1, zl_as2, zl_al, zl_gf, zl_gr, zl_pf, zl_iv, zl_ivn, zlk_n, zlk_c, ztb_n, ztb_c, zin_n, zin_1, zin_c, Int.reduceLT, decide_true, decide_false, Bool.true_and, Bool.and_true, List.length_cons, List.length_nil, Int.reduceSub, Int.reduceEq, Int.natCast_zero, zk_s, z_in_n, z_in_c, z_gt_0, z_gt_s, zst_0, zst_1, zst_s, zsl_0, zsl_1, zsl_s, zc_n, zc_i, zc_l, zc_r, zc_u, zca_n, zca_i, zca_l, zca_r, zca_u, zrt_i, zrt_z, zrt_o, z_cal_0, z_cal_s, true_and, and_true, List.nil_append, List.cons_append, Option.toList_some, Option.toList_none, Nat.reduceAdd, Nat.reduceBEq, Nat.reduceLT, Nat.reduceLeDiff, Nat.reduceSub, Int.reduceAdd, Int.reduceLE, Int.reduceToNat, Int.cast_ofNat_Int, Bool.or_true, Bool.true_or, Bool.or_false, Bool.false_or, Nat.le_refl, Nat.zero_le, or_true, true_or, or_false, false_or, not_true_eq_false, not_false_eq_true, not_false_iff, false_implies, true_implies, eq_self, zo_iconst, zo_bipush, zo_sipush, zo_lconst, zo_ldc, zo_ldc_w, zo_ldc2_w, zo_iload_n, zo_iload, zo_lload_n, zo_lload, zo_aload_n, zo_aload, zo_istore_n, zo_istore, zo_lstore_n, zo_lstore, zo_astore_n, zo_astore, zo_iinc, zo_iadd, zo_isub, zo_imul, zo_iand, zo_ior, zo_ixor, zo_ishl, zo_ishr, zo_iushr, zo_idiv, zo_irem, zo_ladd, zo_lsub, zo_lmul, zo_ldiv, zo_lrem, zo_lcmp, zo_i2l, zo_i2b, zo_i2s, zo_dup, zo_dup2, zo_aconst_null, zo_if_icmp, zo_ifCond, zo_goto, zo_ifnull, zo_ifnonnull, zo_iaload, zo_baload, zo_laload, zo_aaload, zo_iastore, zo_bastore, zo_lastore, zo_arraylength, zo_getfield, zo_putfield, zo_tableswitch, zo_lookupswitch, zo_ireturn, zo_lreturn, zo_areturn, zo_return, zo_invokestatic, zo_invokevirtual, zo_new, zo_invokespecial, zo_newarray, zo_anewarray, zo_aastore, zy_0_1, zy_0_2, zy_0_3, zy_1_1, zy_1_2, zy_2_1, zy_2_2, zy_2_3, zy_3_0, zy_4_3, zy_5_1, zy_5_2, zy_6_5, zy_6_6, zy_6_7, zy_6_8, zy_6_9, zy_6_10, zy_7_2, zy_7_6, zy_7_9, zy_7_10, zy_7_11, zy_7_12, zy_7_14, zy_7_21, zy_7_30, zq_iconst, zq_bipush, zq_sipush, zq_lconst0, zq_lconst1, zq_ldc, zq_ldc_w, zq_ldc2_w, zq_iload0, zq_iload1, zq_iload2, zq_iload3, zq_iload, zq_lload0, zq_lload1, zq_lload2, zq_lload3, zq_lload, zq_aload0, zq_aload1, zq_aload2, zq_aload3, zq_aload, zq_istore0, zq_istore1, zq_istore2, zq_istore3, zq_istore, zq_lstore0, zq_lstore1, zq_lstore2, zq_lstore3, zq_lstore, zq_astore0, zq_astore0N, zq_astore1, zq_astore1N, zq_astore2, zq_astore2N, zq_astore3, zq_astore3N, zq_astore, zq_astoreN, zq_iinc, zq_iadd, zq_isub, zq_imul, zq_iand, zq_ior, zq_ixor, zq_ishl, zq_ishr, zq_iushr, zq_idiv, zq_irem, zq_ladd, zq_lsub, zq_lmul, zq_ldiv, zq_lrem, zq_lcmp, zq_i2l, zq_i2b, zq_i2s, zq_dup_i, zq_dup_r, zq_dup2, zq_null, zq_icmp_eq, zq_if_eq, zq_icmp_ne, zq_if_ne, zq_icmp_lt, zq_if_lt, zq_icmp_ge, zq_if_ge, zq_icmp_gt, zq_if_gt, zq_icmp_le, zq_if_le, zq_goto, zq_ifnull_r, zq_ifnull_n, zq_ifnonnull_r, zq_ifnonnull_n, zq_iaload, zq_baload, zq_laload, zq_aaload, zq_iastore, zq_bastore, zq_lastore, zq_alen, zq_getf, zq_put, zq_tsw, zq_lsw, zq_ireturn, zq_lreturn, zq_areturn, zq_areturnN, zq_return, zq_invokestatic, zq_invokevirtual, zq_new, zq_invokespecial, zq_newarray, zq_anewarray, zq_aastore, zi_m1, zi_0, zi_1, zi_2, zi_3, zi_4, zi_5, zi_6, zi_8, zi_16, zb_m10, zb_m4, zb_m3, zb_m2, zb_6, zb_7, zb_8, zb_9, zb_10, zb_16, zb_20, zb_23, zb_30, zb_32, zb_35, zb_46, zb_48, zb_56, zb_57, zb_59, zb_63, zb_70, zb_98, zb_99, zb_100, zb_111, zb_112, zs_192, zs_255, zs_256, zs_511, zs_512, zs_12345, zf_X8_7_0, zf_X8_13_0, zf_X8_112_0, zf_X8_16_0, zf_X8_19_0, zf_X8_22_0, zf_X8_115_0, zf_X8_25_0, zf_X8_28_0, zf_X8_78_0, zf_X8_82_0, zf_X8_85_0, zf_X8_144_0, zf_X8_31_0, zf_X8_137_0, zf_X8_34_0, zf_X8_38_0, zf_X8_41_0, zf_X8_44_0, zf_X8_47_0, zf_X8_50_0, zf_X8_234_0, zf_X8_53_0, zf_X8_56_0, zf_X8_59_0, zf_X8_62_0, zf_X8_66_0, zf_X8_69_0, zf_X8_72_0, zf_X8_75_0, zf_X8_244_0, zkc_X8_240, zkc_X8_253, zkl_X8_92, zkl_X8_262, zkl_X8_257, za_M_1, za_M_2, za_M_3, za_M_4, za_M_5, za_M_6, za_M_7, za_M_8, za_M_9, za_M_10, za_M_11, za_M_12, za_M_13, za_M_14, za_M_15, za_M_16, za_M_17, za_M_18, za_M_19, za_M_20, za_M_21, za_M_22, dX8_said_0, dX8_said_1, dX8_said_2, dX8_said_5, dX8_said_6, dX8_said_9, dX8_said_10, dX8_said_12, dX8_said_13, dX8_said_16, dX8_said_18, dX8_said_21, dX8_said_22, dX8_said_23, dX8_said_26, dX8_said_27, dX8_said_30, dX8_said_32, dX8_said_34, dX8_said_35, dX8_said_36, dX8_said_37, dX8_said_40, dX8_said_43, dX8_said_44, dX8_said_46, dX8_said_48, dX8_said_51, dX8_said_54, dX8_said_55, dX8_said_56, dX8_said_57, dX8_said_60, dX8_said_63, dX8_said_65, dX8_said_66, dX8_said_67, dX8_said_70, dX8_said_72, dX8_said_75, dX8_said_77, dX8_said_78, dX8_said_79, dX8_said_82, dX8_said_83, dX8_said_86, dX8_said_87, dX8_said_88, dX8_said_89, dX8_said_92, dX8_said_93, dX8_said_96, dX8_said_97, dX8_said_98, dX8_said_99, dX8_said_102, dX8_said_103, dX8_said_106, dX8_said_107, dX8_said_108, dX8_said_109, dX8_said_110, dX8_said_113, dX8_said_114, dX8_said_115, dX8_said_118, dX8_said_119, dX8_said_122, cr_X8_said_94, wr_X8_in]
          have w3 : ¬ i_in w 3 := fun q => (i_in3 q).elim w0 (fun q => q.elim w1 w2)
          have fin := bad (fun q => q.1.elim (fun q => w0 q.1) (fun q => q.elim (fun q => w1 q.1) (fun q => w2 q.1)))
          simp only [w_in (m := 2) (M := 2) (by decide), w3, w0, w1, w2, false_implies, not_false_eq_true, true_implies, true_and, and_true]
          exact fin
  · exact h.elim
theorem ok_X8_said : z_Ok z_shM yX8_said cX8_said 6 (some .int) ({ frames := 1, cells := 0, slots := 0, locals := 22 } : Room) 0 wp_X8_said := z_Ok_of pu_X8_said z_fX8_ok z_kX8_ok co_X8_said ⟨by decide, by decide⟩ (by decide +kernel)
theorem rec_X8_said : z_rec z_shM wp_X8_said 7 := by
  intro as S post h
  unfold wp_X8_said at h
  split at h
  · exact ⟨_, _, _, rfl, rfl⟩
  · exact h.elim

